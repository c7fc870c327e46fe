/-! tables' words on array classes, at a later state -/
theorem x_ac {ty : FieldType} {A A' : Array Value} {u U : State} (hvm : u.vm.Alike U.vm) (h : (Cond.arrayClass ty).before A u = true) : (Cond.arrayClass ty).before A' U = true := by
  obtain ⟨c, k, comp, h1, h2, h3⟩ := Cond.arrayClass_spec h
  obtain ⟨k', hk', he⟩ := hvm.2.2 _ _ h2
  have f1 : U.vm.findClass ("[" ++ ty.toString) = some c := by rw [hvm.findClass]; exact h1
  have hkind : k'.kind = .array comp ty := by rw [he]; exact h3
  simp [Cond.before, Cond.holds, Cond.value, f1, hk', hkind]
theorem x_aoA {A A' : Array Value} {u U : State} (hvm : u.vm.Alike U.vm) (h : (Cond.arrayOver (.array .int)).before A u = true) : (Cond.arrayOver (.array .int)).before A' U = true := by
  obtain ⟨comp, c, k, h1, h2, h3, h4, h5⟩ := arrayOverA_spec h
  obtain ⟨k', hk', he⟩ := hvm.2.2 _ _ h3
  have h6 := (va_idx_bare u.vm comp).trans h2
  have h7 : u.vm.bare = U.vm.bare := by first | exact hvm.bare_eq | exact hvm.bare_eq.symm
  rw [h7] at h6
  have hi := (va_idx_bare U.vm comp).symm.trans h6
  have hkind : k'.kind = .array comp (.array .int) := by rw [he]; exact h4
  have f1 : U.vm.findClass (FieldType.array .int).toString = some comp := by rw [hvm.findClass]; exact h1
  have f2 : U.vm.findClass ("[" ++ (FieldType.array .int).toString) = some c := by rw [hvm.findClass]; exact h5
  unfold Cond.before Cond.holds
  simp only [Cond.value]
  rw [f1, Option.bind_some]
  refine (congrArg (fun o : Option Nat => (o.bind (fun c => (U.vm.classes[c]?).map fun (k : Class) => match k.kind with | .array _ ty => decide (ty = FieldType.array .int) && decide (U.vm.findClass ("[" ++ (FieldType.array .int).toString) = some c) | _ => false) == some true)) hi).trans ?_
  simp [hk', hkind, f2]
/-! the state in which a new object and a new reference stand -/
def xI0 : XS := (fun r _ j => match r with
  | 9 => (match j with | 6 => 1000 | 9 => -1 | 10 => -1 | _ => 0)
  | 13 => if j < 30 then -1 else 0
  | 14 => if j < 30 then 100 else 0
  | _ => 0, fun _ _ _ => 0)
def xv (dA : Nat → ClassId) (E0 : Nat → Nat → va_E) (i : Nat) (fs : List Value) (f g : Nat → Int32) : Nat → Nat → va_E := fun r j => if j = i then (match r with
  | 9 => .inr (1, fs)
  | 13 => .inl (dA 0, 30, .inl f)
  | 14 => .inl (dA 0, 30, .inl g)
  | _ => E0 r j) else E0 r j
theorem xv_9 {dA : Nat → ClassId} {E0 : Nat → Nat → va_E} {i : Nat} {fs : List Value} {f g : Nat → Int32} : xv dA E0 i fs f g 9 i = .inr (1, fs) := if_pos rfl
theorem xv_13 {dA : Nat → ClassId} {E0 : Nat → Nat → va_E} {i : Nat} {fs : List Value} {f g : Nat → Int32} : xv dA E0 i fs f g 13 i = .inl (dA 0, 30, .inl f) := if_pos rfl
theorem xv_14 {dA : Nat → ClassId} {E0 : Nat → Nat → va_E} {i : Nat} {fs : List Value} {f g : Nat → Int32} : xv dA E0 i fs f g 14 i = .inl (dA 0, 30, .inl g) := if_pos rfl
theorem xv_e {dA : Nat → ClassId} {E0 : Nat → Nat → va_E} {i : Nat} {fs : List Value} {f g : Nat → Int32} {r j : Nat} (h : ¬ (j = i ∧ (r = 9 ∨ r = 13 ∨ r = 14))) : xv dA E0 i fs f g r j = E0 r j := by
  unfold xv
  split
  · rename_i q
    split
    · exact absurd ⟨q, Or.inl rfl⟩ h
    · exact absurd ⟨q, Or.inr (Or.inl rfl)⟩ h
    · exact absurd ⟨q, Or.inr (Or.inr rfl)⟩ h
    · rfl
  · rfl
theorem xv_o9 {dA : Nat → ClassId} {E0 : Nat → Nat → va_E} {i : Nat} {fs fs' : List Value} {f g : Nat → Int32} : ∀ r' i', ¬ (r' = 9 ∧ i' = i) → xv dA E0 i fs' f g r' i' = xv dA E0 i fs f g r' i' := fun r' i' h => by
  unfold xv
  split
  · rename_i q
    split
    · exact absurd ⟨rfl, q⟩ h
    · rfl
    · rfl
    · rfl
  · rfl
theorem xv_o13 {dA : Nat → ClassId} {E0 : Nat → Nat → va_E} {i : Nat} {fs : List Value} {f f' g : Nat → Int32} : ∀ r' i', ¬ (r' = 13 ∧ i' = i) → xv dA E0 i fs f' g r' i' = xv dA E0 i fs f g r' i' := fun r' i' h => by
  unfold xv
  split
  · rename_i q
    split
    · rfl
    · exact absurd ⟨rfl, q⟩ h
    · rfl
    · rfl
  · rfl
theorem xv_o14 {dA : Nat → ClassId} {E0 : Nat → Nat → va_E} {i : Nat} {fs : List Value} {f g g' : Nat → Int32} : ∀ r' i', ¬ (r' = 14 ∧ i' = i) → xv dA E0 i fs f g' r' i' = xv dA E0 i fs f g r' i' := fun r' i' h => by
  unfold xv
  split
  · rename_i q
    split
    · rfl
    · rfl
    · exact absurd ⟨rfl, q⟩ h
    · rfl
  · rfl
theorem xv_full {dA : Nat → ClassId} {E0 : Nat → Nat → va_E} {i : Nat} {fs : List Value} {f g : Nat → Int32} (h9 : E0 9 i = .inr (1, fs)) (h13 : E0 13 i = .inl (dA 0, 30, .inl f)) (h14 : E0 14 i = .inl (dA 0, 30, .inl g)) : xv dA E0 i fs f g = E0 := by
  funext r j
  unfold xv
  split
  · rename_i q
    subst q
    split
    · exact h9.symm
    · exact h13.symm
    · exact h14.symm
    · rfl
  · rfl
theorem xk_cast {D : va_G} {s0 : State} {n n' : Nat} {E E' : Nat → Nat → va_E} {H : Heap} {locs : List Loc} (h : XK D s0 n E H locs) (hn : n' = n) (hE : ∀ r i, i < cn n r → E' r i = E r i) : XK D s0 n' E' H locs := by
  subst hn
  exact ⟨fun r i hi => by rw [hE r i hi]; exact h.1 r i hi, h.2⟩
def xf (f : Nat → Int32) (x : Int32) (k : Nat) : Nat → Int32 := fun j => if j < k then x else f j
theorem xf_s (f : Nat → Int32) (x : Int32) (k : Nat) : upd (xf f x k) k x = xf f x (k + 1) := by
  funext j
  unfold upd xf
  by_cases h : j = k
  · subst h
    simp
  · by_cases h2 : j < k
    · simp [h, h2, Nat.lt_succ_of_lt h2]
    · simp [h, h2, show ¬ j < k + 1 by omega]
theorem xf_0 (f : Nat → Int32) (x : Int32) : xf f x 0 = f := funext fun _ => if_neg (Nat.not_lt_zero _)

abbrev rm_AR_fill : Room := { frames := 0, cells := 0, slots := 0, locals := 0 }
set_option maxHeartbeats 8000000 in
set_option maxRecDepth 100000 in
theorem l_AR_fill {l : Launch} {s0 : State} {A0 : Array Value} {D : va_G} {dA : Nat → ClassId} (h0 : XS0 l s0 A0 D dA) {p : Program} {e : Env} {s : State} {m : MethodId} {args : Array Value} {below : List Frame} {meth : Method} {c : Code} (hx : p.tables.exec = Jvm.exec) (hb : c.code = b_AR_fill) (hr : meth.sig.returnType = none) (hlocks : meth.locks = false) (hW0 : s0.WarmedH s.vm)
    {N r i : Nat} {E : Nat → Nat → va_E} (Ef : (Nat → Int32) → Nat → Nat → va_E) (f : Nat → Int32) (x : Int32) (hi : i < cn N r) (he : ∀ g, Ef g r i = .inl (dA 0, 30, .inl g)) (ho : ∀ g g' r' i', ¬ (r' = r ∧ i' = i) → Ef g' r' i' = Ef g r' i') :
    ∀ (q k : Nat), k + q = 31 → k < 31 → ∀ (H : Heap) (locs : List Loc), XK D s0 N (Ef (xf f x k)) H locs → ∀ ls : Array Slot, lv_has ls 4 [(2, .int (nI k)), (3, .int 30), (0, .ref (xB s0 + XA r i)), (1, .int x)] →
    W p l e rm_AR_fill s m args below meth c H locs 0 0 (XMQ below (XQk D s0 N (Ef (xf f x 30))) args s 0 0 (xAm s0)) (F0 m 5 ls []) := by
  have hK := xs_K h0 hW0
  intro q
  induction q with
  | zero =>
    intro k h1 h2
    exact absurd h1 (by omega)
  | succ q ih =>
    intro k hkn hkF H locs h ls hl
    refine lv_iload_n hx hb d_AR_fill_5 rfl (lv_at hl 0 rfl) ?_
    refine lv_iload_n hx hb d_AR_fill_6 rfl (lv_at hl 1 rfl) ?_
    refine lv_icmp_ge (tgt := 20) hx hb d_AR_fill_7 (by decide) (fun c7 => ?_) (fun c7 => ?_)
    · have hk : k = 30 := by
        rcases Nat.lt_or_ge k 30 with g | g
        · exact absurd c7 (fun z => by
            rw [Int32.le_iff_toInt_le, nI_toInt (by omega)] at z
            have h30 : (30 : Int32).toInt = 30 := rfl
            omega)
        · omega
      subst hk
      exact xk_v hx hb hr hlocks h d_AR_fill_20
    · have hk : k < 30 := x_klt (b := 30) rfl (by decide) (by omega) rfl c7
      refine lv_aload_n hx hb d_AR_fill_10 rfl (lv_at hl 2 rfl) ?_
      refine lv_iload_n hx hb d_AR_fill_11 rfl (lv_at hl 0 rfl) ?_
      refine lv_iload_n hx hb d_AR_fill_12 rfl (lv_at hl 3 rfl) ?_
      refine xw_iastS (r := r) (i := i) (ent' := Ef (xf f x (k + 1))) hx hb hK (cn_inj N) h.1 h.2.2 (xA_in _ _ _) hi 0 (he _) rfl (j := nI k) (vp_in_nI hk (by decide)) ((he _).trans (by rw [pk_cl k rfl, xf_s])) (ho _ _) d_AR_fill_13 (fun H1 locs1 hX1 hz1 hS1 => ?_)
      refine lv_iinc (v := nI (k + 1)) (lv' := [(2, .int (nI (k + 1))), (3, .int 30), (0, .ref (xB s0 + XA r i)), (1, .int x)]) hx hb d_AR_fill_14 hl (k := 0) rfl (nI_1 k) (by decide) rfl (fun ls hl => ?_)
      refine lv_goto (tgt := 5) hx hb d_AR_fill_17 (by decide) ?_
      exact ih (k + 1) (by omega) (by omega) H1 locs1 ⟨hX1, by rw [hz1]; exact h.2.1, hS1⟩ ls hl
set_option maxHeartbeats 8000000 in
set_option maxRecDepth 100000 in
theorem c_AR_fill {l : Launch} {s0 : State} {A0 : Array Value} {D : va_G} {dA : Nat → ClassId} (h0 : XS0 l s0 A0 D dA) {N r i : Nat} (Ef : (Nat → Int32) → Nat → Nat → va_E) (f : Nat → Int32) (x : Int32) (hi : i < cn N r) (he : ∀ g, Ef g r i = .inl (dA 0, 30, .inl g)) (ho : ∀ g g' r' i', ¬ (r' = r ∧ i' = i) → Ef g' r' i' = Ef g r' i') : XMet l y_AR_fill [cw_AR_fill] rm_AR_fill (XPk D s0 N (Ef f) [.ref (xB s0 + XA r i), .int x]) (XQk D s0 N (Ef (xf f x 30))) 0 0 (xAm s0) := by
  refine XMet.ofW (cc := b_AR_fill) (maxL := 4) (ret := none) (by decide) rfl ?_
  intro p e s m args below meth c s₁ Bd hml hvA
  obtain ⟨rfl, hX, hO⟩ := hvA
  have hx := Bd.exec
  have hb := Bd.bytes
  have hr := Bd.returns
  have hown : s.vm.findClass "java/util/Arrays" = some m.cls := findClass_of_methodNamed Bd.named
  have hlocks := Bd.notSynchronized
  have hin2 : meth.name = "fill" := (name_of_methodNamed Bd.named Bd.method).1
  have hW0 := hO.1
  have hts := xs_w (args := ([.ref (xB s0 + XA r i), .int x] : List Value).toArray) h0 hW0
  have hK := xs_K h0 hW0
  have h : XK D s0 N (Ef f) s.heap [] := ⟨hX.1, hX.2, xo_S0 hO⟩
  have hl := lv_entry ([.ref (xB s0 + XA r i), .int x]) (n := 4) (Nat.le_of_ble_eq_true rfl)
  rw [lg_entry_eq]
  generalize (lg_sl ([.ref (xB s0 + XA r i), .int x]) ++ List.replicate (4 - (lg_sl ([.ref (xB s0 + XA r i), .int x])).length) Slot.unset).toArray = ls at hl ⊢
  have hl : lv_has ls 4 [(0, .ref (xB s0 + XA r i)), (1, .int x)] := hl

  refine lv_iconst (v := 0) hx hb d_AR_fill_0 (by decide) ?_
  refine lv_istore_n (lv' := [(2, .int 0), (0, .ref (xB s0 + XA r i)), (1, .int x)]) hx hb d_AR_fill_1 rfl hl (by decide) rfl (fun ls hl => ?_)
  refine lv_aload_n hx hb d_AR_fill_2 rfl (lv_at hl 1 rfl) ?_
  refine xw_alen (r := r) (i := i) (v := 30) hx hb hK h.1 hi 0 (he _) rfl rfl d_AR_fill_3 ?_
  refine lv_istore_n (lv' := [(3, .int 30), (2, .int 0), (0, .ref (xB s0 + XA r i)), (1, .int x)]) hx hb d_AR_fill_4 rfl hl (by decide) rfl (fun ls hl => ?_)
  exact l_AR_fill h0 hx hb hr hlocks hW0 (E := Ef f) Ef f x hi he ho 31 0 rfl (by decide) s.heap [] (by rw [xf_0]; exact h) ls (lv_sub hl [1, 0, 2, 3] rfl)

abbrev rm_VE_init : Room := { frames := 1, cells := 5, slots := 316, locals := 23 }
set_option maxHeartbeats 8000000 in
set_option maxRecDepth 100000 in
theorem c_VE_init {l : Launch} {s0 : State} {A0 : Array Value} {D : va_G} {dA : Nat → ClassId} (h0 : XS0 l s0 A0 D dA) (E0 : Nat → Nat → va_E) (i : Nat) (hi : i < 16) (hE9 : E0 9 i = .inr (1, [.ref (xB s0 + XA 10 i), .ref (xB s0 + XA 11 i), .ref (xB s0 + XA 12 i), .ref (xB s0 + XA 13 i), .ref (xB s0 + XA 14 i), .int 0, .int 1000, .int 0, .int 0, .int (-1), .int (-1), .long 0, .long 0])) (hE10 : E0 10 i = .inl (dA 0, 8, .inl fun _ => 0)) (hE11 : E0 11 i = .inl (dA 1, 8, .inl fun _ => 0)) (hE12 : E0 12 i = .inl (dA 0, 240, .inl fun _ => 0)) (hE13 : E0 13 i = .inl (dA 0, 30, .inl (xf (fun _ => 0) (-1) 30))) (hE14 : E0 14 i = .inl (dA 0, 30, .inl (xf (fun _ => 0) 100 30))) : XMet l y_VE_init [cw_VE_init] rm_VE_init (XPk D s0 (15 + 6 * i) (xv dA E0 i [.null, .null, .null, .null, .null, .int 0, .int 0, .int 0, .int 0, .int 0, .int 0, .long 0, .long 0] (fun _ => 0) (fun _ => 0)) [.ref (xB s0 + XA 9 i)]) (XQk D s0 (20 + 6 * i) E0) 5 316 (xAm s0) := by
  refine XMet.ofW (cc := b_VE_init) (maxL := 1) (ret := none) (by decide) rfl ?_
  intro p e s m args below meth c s₁ Bd hml hvA
  obtain ⟨rfl, hX, hO⟩ := hvA
  have hx := Bd.exec
  have hb := Bd.bytes
  have hr := Bd.returns
  have hown : s.vm.findClass "LoadChecks$Vehicle" = some m.cls := findClass_of_methodNamed Bd.named
  have hlocks := Bd.notSynchronized
  have hin2 : meth.name = "<init>" := (name_of_methodNamed Bd.named Bd.method).1
  have hW0 := hO.1
  have hts := xs_w (args := ([.ref (xB s0 + XA 9 i)] : List Value).toArray) h0 hW0
  have hK := xs_K h0 hW0
  have h : XK D s0 (15 + 6 * i) (xv dA E0 i [.null, .null, .null, .null, .null, .int 0, .int 0, .int 0, .int 0, .int 0, .int 0, .long 0, .long 0] (fun _ => 0) (fun _ => 0)) s.heap [] := ⟨hX.1, hX.2, xo_S0 hO⟩
  have hl := lv_entry ([.ref (xB s0 + XA 9 i)]) (n := 1) (Nat.le_of_ble_eq_true rfl)
  rw [lg_entry_eq]
  generalize (lg_sl ([.ref (xB s0 + XA 9 i)]) ++ List.replicate (1 - (lg_sl ([.ref (xB s0 + XA 9 i)])).length) Slot.unset).toArray = ls at hl ⊢
  have hl : lv_has ls 1 [(0, .ref (xB s0 + XA 9 i))] := hl
  refine lv_aload_n hx hb d_VE_init_0 rfl (lv_at hl 0 rfl) ?_
  refine W.objInit hx hb hown (hts _ w_78) (hts _ w_54) (hts _ w_55) rfl (hl.1.trans hml.symm) rfl d_VE_init_1 (Nat.le_of_ble_eq_true rfl) (Nat.le_of_ble_eq_true rfl) ?_
  show W _ _ _ _ _ _ _ _ _ _ _ _ _ _ _ (F0 m 4 ls [])
  refine lv_aload_n hx hb d_VE_init_4 rfl (lv_at hl 0 rfl) ?_
  refine lv_bipush (v := 8) hx hb d_VE_init_5 (by decide) ?_
  refine xk_newa hx hb (ty := .int) (x_ac hW0.alike (h0.2.1 _ m_73)) hK 0 rfl rfl (fun q => q) h 10 i (16 + 6 * i) (by omega) hi (by show 15 + 6 * i = 15 + 6 * i; rfl) (N := 8) (a0 := (8, .inl fun _ => 0)) (fun _ => rfl) (by decide) rfl (by decide) (Nat.le_of_ble_eq_true rfl) (Nat.le_of_ble_eq_true rfl) (E' := (xv dA E0 i [.null, .null, .null, .null, .null, .int 0, .int 0, .int 0, .int 0, .int 0, .int 0, .long 0, .long 0] (fun _ => 0) (fun _ => 0))) ((xv_e (by omega)) |>.trans hE10) (fun _ _ _ => rfl) d_VE_init_7 (fun H h => ?_)
  refine xw_putF (C := R_VE) (T := F_VE) (N := 13) (ent' := (xv dA E0 i [.ref (xB s0 + XA 10 i), .null, .null, .null, .null, .int 0, .int 0, .int 0, .int 0, .int 0, .int 0, .long 0, .long 0] (fun _ => 0) (fun _ => 0))) hx hb hts hi_VE t_VE t_VE_ok n_VE hown hK (cn_inj _) h.1 h.2.2 9 i (xA_in _ _ _) (cn_mk hi (by show 14 + 6 * i < (16 + 6 * i); omega)) xv_9 rfl 0 (by decide) (hts _ w_82) rfl rfl hin2 rfl (v := .ref (xB s0 + XA 10 i)) rfl rfl rfl (Nat.le_of_ble_eq_true rfl) xv_9 xv_o9 d_VE_init_9 (fun H locs hX1 hz1 hS1 => ?_)
  have h : XK D s0 (16 + 6 * i) (xv dA E0 i [.ref (xB s0 + XA 10 i), .null, .null, .null, .null, .int 0, .int 0, .int 0, .int 0, .int 0, .int 0, .long 0, .long 0] (fun _ => 0) (fun _ => 0)) H locs := ⟨hX1, by rw [hz1]; exact h.2.1, hS1⟩
  refine lv_aload_n hx hb d_VE_init_12 rfl (lv_at hl 0 rfl) ?_
  refine lv_bipush (v := 8) hx hb d_VE_init_13 (by decide) ?_
  refine xk_newa hx hb (ty := .boolean) (x_ac hW0.alike (h0.2.1 _ m_132)) hK 1 rfl rfl (fun q => q) h 11 i (17 + 6 * i) (by omega) hi (by show 16 + 6 * i = 16 + 6 * i; rfl) (N := 8) (a0 := (8, .inl fun _ => 0)) (fun _ => rfl) (by decide) rfl (by decide) (Nat.le_of_ble_eq_true rfl) (Nat.le_of_ble_eq_true rfl) (E' := (xv dA E0 i [.ref (xB s0 + XA 10 i), .null, .null, .null, .null, .int 0, .int 0, .int 0, .int 0, .int 0, .int 0, .long 0, .long 0] (fun _ => 0) (fun _ => 0))) ((xv_e (by omega)) |>.trans hE11) (fun _ _ _ => rfl) d_VE_init_15 (fun H h => ?_)
  refine xw_putF (C := R_VE) (T := F_VE) (N := 13) (ent' := (xv dA E0 i [.ref (xB s0 + XA 10 i), .ref (xB s0 + XA 11 i), .null, .null, .null, .int 0, .int 0, .int 0, .int 0, .int 0, .int 0, .long 0, .long 0] (fun _ => 0) (fun _ => 0))) hx hb hts hi_VE t_VE t_VE_ok n_VE hown hK (cn_inj _) h.1 h.2.2 9 i (xA_in _ _ _) (cn_mk hi (by show 14 + 6 * i < (17 + 6 * i); omega)) xv_9 rfl 1 (by decide) (hts _ w_84) rfl rfl hin2 rfl (v := .ref (xB s0 + XA 11 i)) rfl rfl rfl (Nat.le_of_ble_eq_true rfl) xv_9 xv_o9 d_VE_init_17 (fun H locs hX1 hz1 hS1 => ?_)
  have h : XK D s0 (17 + 6 * i) (xv dA E0 i [.ref (xB s0 + XA 10 i), .ref (xB s0 + XA 11 i), .null, .null, .null, .int 0, .int 0, .int 0, .int 0, .int 0, .int 0, .long 0, .long 0] (fun _ => 0) (fun _ => 0)) H locs := ⟨hX1, by rw [hz1]; exact h.2.1, hS1⟩
  refine lv_aload_n hx hb d_VE_init_20 rfl (lv_at hl 0 rfl) ?_
  refine lv_sipush (v := 240) hx hb d_VE_init_21 (by decide) ?_
  refine xk_newa hx hb (ty := .int) (x_ac hW0.alike (h0.2.1 _ m_73)) hK 0 rfl rfl (fun q => q) h 12 i (18 + 6 * i) (by omega) hi (by show 17 + 6 * i = 17 + 6 * i; rfl) (N := 240) (a0 := (240, .inl fun _ => 0)) (fun _ => rfl) (by decide) rfl (by decide) (Nat.le_of_ble_eq_true rfl) (Nat.le_of_ble_eq_true rfl) (E' := (xv dA E0 i [.ref (xB s0 + XA 10 i), .ref (xB s0 + XA 11 i), .null, .null, .null, .int 0, .int 0, .int 0, .int 0, .int 0, .int 0, .long 0, .long 0] (fun _ => 0) (fun _ => 0))) ((xv_e (by omega)) |>.trans hE12) (fun _ _ _ => rfl) d_VE_init_24 (fun H h => ?_)
  refine xw_putF (C := R_VE) (T := F_VE) (N := 13) (ent' := (xv dA E0 i [.ref (xB s0 + XA 10 i), .ref (xB s0 + XA 11 i), .ref (xB s0 + XA 12 i), .null, .null, .int 0, .int 0, .int 0, .int 0, .int 0, .int 0, .long 0, .long 0] (fun _ => 0) (fun _ => 0))) hx hb hts hi_VE t_VE t_VE_ok n_VE hown hK (cn_inj _) h.1 h.2.2 9 i (xA_in _ _ _) (cn_mk hi (by show 14 + 6 * i < (18 + 6 * i); omega)) xv_9 rfl 2 (by decide) (hts _ w_86) rfl rfl hin2 rfl (v := .ref (xB s0 + XA 12 i)) rfl rfl rfl (Nat.le_of_ble_eq_true rfl) xv_9 xv_o9 d_VE_init_26 (fun H locs hX1 hz1 hS1 => ?_)
  have h : XK D s0 (18 + 6 * i) (xv dA E0 i [.ref (xB s0 + XA 10 i), .ref (xB s0 + XA 11 i), .ref (xB s0 + XA 12 i), .null, .null, .int 0, .int 0, .int 0, .int 0, .int 0, .int 0, .long 0, .long 0] (fun _ => 0) (fun _ => 0)) H locs := ⟨hX1, by rw [hz1]; exact h.2.1, hS1⟩
  refine lv_aload_n hx hb d_VE_init_29 rfl (lv_at hl 0 rfl) ?_
  refine lv_bipush (v := 30) hx hb d_VE_init_30 (by decide) ?_
  refine xk_newa hx hb (ty := .int) (x_ac hW0.alike (h0.2.1 _ m_73)) hK 0 rfl rfl (fun q => q) h 13 i (19 + 6 * i) (by omega) hi (by show 18 + 6 * i = 18 + 6 * i; rfl) (N := 30) (a0 := (30, .inl fun _ => 0)) (fun _ => rfl) (by decide) rfl (by decide) (Nat.le_of_ble_eq_true rfl) (Nat.le_of_ble_eq_true rfl) (E' := (xv dA E0 i [.ref (xB s0 + XA 10 i), .ref (xB s0 + XA 11 i), .ref (xB s0 + XA 12 i), .null, .null, .int 0, .int 0, .int 0, .int 0, .int 0, .int 0, .long 0, .long 0] (fun _ => 0) (fun _ => 0))) (xv_13) (fun _ _ _ => rfl) d_VE_init_32 (fun H h => ?_)
  refine xw_putF (C := R_VE) (T := F_VE) (N := 13) (ent' := (xv dA E0 i [.ref (xB s0 + XA 10 i), .ref (xB s0 + XA 11 i), .ref (xB s0 + XA 12 i), .ref (xB s0 + XA 13 i), .null, .int 0, .int 0, .int 0, .int 0, .int 0, .int 0, .long 0, .long 0] (fun _ => 0) (fun _ => 0))) hx hb hts hi_VE t_VE t_VE_ok n_VE hown hK (cn_inj _) h.1 h.2.2 9 i (xA_in _ _ _) (cn_mk hi (by show 14 + 6 * i < (19 + 6 * i); omega)) xv_9 rfl 3 (by decide) (hts _ w_88) rfl rfl hin2 rfl (v := .ref (xB s0 + XA 13 i)) rfl rfl rfl (Nat.le_of_ble_eq_true rfl) xv_9 xv_o9 d_VE_init_34 (fun H locs hX1 hz1 hS1 => ?_)
  have h : XK D s0 (19 + 6 * i) (xv dA E0 i [.ref (xB s0 + XA 10 i), .ref (xB s0 + XA 11 i), .ref (xB s0 + XA 12 i), .ref (xB s0 + XA 13 i), .null, .int 0, .int 0, .int 0, .int 0, .int 0, .int 0, .long 0, .long 0] (fun _ => 0) (fun _ => 0)) H locs := ⟨hX1, by rw [hz1]; exact h.2.1, hS1⟩
  refine lv_aload_n hx hb d_VE_init_37 rfl (lv_at hl 0 rfl) ?_
  refine lv_bipush (v := 30) hx hb d_VE_init_38 (by decide) ?_
  refine xk_newa hx hb (ty := .int) (x_ac hW0.alike (h0.2.1 _ m_73)) hK 0 rfl rfl (fun q => q) h 14 i (20 + 6 * i) (by omega) hi (by show 19 + 6 * i = 19 + 6 * i; rfl) (N := 30) (a0 := (30, .inl fun _ => 0)) (fun _ => rfl) (by decide) rfl (by decide) (Nat.le_of_ble_eq_true rfl) (Nat.le_of_ble_eq_true rfl) (E' := (xv dA E0 i [.ref (xB s0 + XA 10 i), .ref (xB s0 + XA 11 i), .ref (xB s0 + XA 12 i), .ref (xB s0 + XA 13 i), .null, .int 0, .int 0, .int 0, .int 0, .int 0, .int 0, .long 0, .long 0] (fun _ => 0) (fun _ => 0))) (xv_14) (fun _ _ _ => rfl) d_VE_init_40 (fun H h => ?_)
  refine xw_putF (C := R_VE) (T := F_VE) (N := 13) (ent' := (xv dA E0 i [.ref (xB s0 + XA 10 i), .ref (xB s0 + XA 11 i), .ref (xB s0 + XA 12 i), .ref (xB s0 + XA 13 i), .ref (xB s0 + XA 14 i), .int 0, .int 0, .int 0, .int 0, .int 0, .int 0, .long 0, .long 0] (fun _ => 0) (fun _ => 0))) hx hb hts hi_VE t_VE t_VE_ok n_VE hown hK (cn_inj _) h.1 h.2.2 9 i (xA_in _ _ _) (cn_mk hi (by show 14 + 6 * i < (20 + 6 * i); omega)) xv_9 rfl 4 (by decide) (hts _ w_90) rfl rfl hin2 rfl (v := .ref (xB s0 + XA 14 i)) rfl rfl rfl (Nat.le_of_ble_eq_true rfl) xv_9 xv_o9 d_VE_init_42 (fun H locs hX1 hz1 hS1 => ?_)
  have h : XK D s0 (20 + 6 * i) (xv dA E0 i [.ref (xB s0 + XA 10 i), .ref (xB s0 + XA 11 i), .ref (xB s0 + XA 12 i), .ref (xB s0 + XA 13 i), .ref (xB s0 + XA 14 i), .int 0, .int 0, .int 0, .int 0, .int 0, .int 0, .long 0, .long 0] (fun _ => 0) (fun _ => 0)) H locs := ⟨hX1, by rw [hz1]; exact h.2.1, hS1⟩
  refine lv_aload_n hx hb d_VE_init_45 rfl (lv_at hl 0 rfl) ?_
  refine lv_sipush (v := 1000) hx hb d_VE_init_46 (by decide) ?_
  refine xw_putS (C := R_VE) (T := F_VE) (N := 13) (ent' := (xv dA E0 i [.ref (xB s0 + XA 10 i), .ref (xB s0 + XA 11 i), .ref (xB s0 + XA 12 i), .ref (xB s0 + XA 13 i), .ref (xB s0 + XA 14 i), .int 0, .int 1000, .int 0, .int 0, .int 0, .int 0, .long 0, .long 0] (fun _ => 0) (fun _ => 0))) hx hb hts hi_VE t_VE t_VE_ok n_VE hown hK (cn_inj _) h.1 h.2.2 9 i (xA_in _ _ _) (cn_mk hi (by show 14 + 6 * i < (20 + 6 * i); omega)) xv_9 rfl 6 (by decide) (hts _ w_93) rfl rfl (v := .int 1000) rfl rfl (Nat.le_of_ble_eq_true rfl) xv_9 xv_o9 d_VE_init_49 (fun H locs hX1 hz1 hS1 => ?_)
  have h : XK D s0 (20 + 6 * i) (xv dA E0 i [.ref (xB s0 + XA 10 i), .ref (xB s0 + XA 11 i), .ref (xB s0 + XA 12 i), .ref (xB s0 + XA 13 i), .ref (xB s0 + XA 14 i), .int 0, .int 1000, .int 0, .int 0, .int 0, .int 0, .long 0, .long 0] (fun _ => 0) (fun _ => 0)) H locs := ⟨hX1, by rw [hz1]; exact h.2.1, hS1⟩
  refine lv_aload_n hx hb d_VE_init_52 rfl (lv_at hl 0 rfl) ?_
  refine lv_iconst (v := -1) hx hb d_VE_init_53 (by decide) ?_
  refine xw_putS (C := R_VE) (T := F_VE) (N := 13) (ent' := (xv dA E0 i [.ref (xB s0 + XA 10 i), .ref (xB s0 + XA 11 i), .ref (xB s0 + XA 12 i), .ref (xB s0 + XA 13 i), .ref (xB s0 + XA 14 i), .int 0, .int 1000, .int 0, .int 0, .int (-1), .int 0, .long 0, .long 0] (fun _ => 0) (fun _ => 0))) hx hb hts hi_VE t_VE t_VE_ok n_VE hown hK (cn_inj _) h.1 h.2.2 9 i (xA_in _ _ _) (cn_mk hi (by show 14 + 6 * i < (20 + 6 * i); omega)) xv_9 rfl 9 (by decide) (hts _ w_99) rfl rfl (v := .int (-1)) rfl rfl (Nat.le_of_ble_eq_true rfl) xv_9 xv_o9 d_VE_init_54 (fun H locs hX1 hz1 hS1 => ?_)
  have h : XK D s0 (20 + 6 * i) (xv dA E0 i [.ref (xB s0 + XA 10 i), .ref (xB s0 + XA 11 i), .ref (xB s0 + XA 12 i), .ref (xB s0 + XA 13 i), .ref (xB s0 + XA 14 i), .int 0, .int 1000, .int 0, .int 0, .int (-1), .int 0, .long 0, .long 0] (fun _ => 0) (fun _ => 0)) H locs := ⟨hX1, by rw [hz1]; exact h.2.1, hS1⟩
  refine lv_aload_n hx hb d_VE_init_57 rfl (lv_at hl 0 rfl) ?_
  refine lv_iconst (v := -1) hx hb d_VE_init_58 (by decide) ?_
  refine xw_putS (C := R_VE) (T := F_VE) (N := 13) (ent' := (xv dA E0 i [.ref (xB s0 + XA 10 i), .ref (xB s0 + XA 11 i), .ref (xB s0 + XA 12 i), .ref (xB s0 + XA 13 i), .ref (xB s0 + XA 14 i), .int 0, .int 1000, .int 0, .int 0, .int (-1), .int (-1), .long 0, .long 0] (fun _ => 0) (fun _ => 0))) hx hb hts hi_VE t_VE t_VE_ok n_VE hown hK (cn_inj _) h.1 h.2.2 9 i (xA_in _ _ _) (cn_mk hi (by show 14 + 6 * i < (20 + 6 * i); omega)) xv_9 rfl 10 (by decide) (hts _ w_101) rfl rfl (v := .int (-1)) rfl rfl (Nat.le_of_ble_eq_true rfl) xv_9 xv_o9 d_VE_init_59 (fun H locs hX1 hz1 hS1 => ?_)
  have h : XK D s0 (20 + 6 * i) (xv dA E0 i [.ref (xB s0 + XA 10 i), .ref (xB s0 + XA 11 i), .ref (xB s0 + XA 12 i), .ref (xB s0 + XA 13 i), .ref (xB s0 + XA 14 i), .int 0, .int 1000, .int 0, .int 0, .int (-1), .int (-1), .long 0, .long 0] (fun _ => 0) (fun _ => 0)) H locs := ⟨hX1, by rw [hz1]; exact h.2.1, hS1⟩
  refine lv_aload_n hx hb d_VE_init_62 rfl (lv_at hl 0 rfl) ?_
  refine xw_get (C := R_VE) (T := F_VE) (N := 13) (r := 9) (i := i) hx hb hts hi_VE hown hK h.1 (cn_mk hi (by show 14 + 6 * i < (20 + 6 * i); omega)) xv_9 rfl 3 (by decide) (hts _ w_88) rfl rfl d_VE_init_63 ?_
  refine lv_iconst (v := -1) hx hb d_VE_init_66 (by decide) ?_
  refine xc_k (rest := []) (x_invS (argsL := [.ref (xB s0 + XA 13 i), .int (-1)]) hx hb hown (hts _ w_79) (hts _ w_80) (hts _ w_37) (x_code (hts _ w_81)) ⟨by decide, by decide⟩ rfl rfl rfl d_VE_init_67) (c_AR_fill h0 (N := (20 + 6 * i)) (r := 13) (i := i) (fun g => xv dA E0 i [.ref (xB s0 + XA 10 i), .ref (xB s0 + XA 11 i), .ref (xB s0 + XA 12 i), .ref (xB s0 + XA 13 i), .ref (xB s0 + XA 14 i), .int 0, .int 1000, .int 0, .int 0, .int (-1), .int (-1), .long 0, .long 0] g (fun _ => 0)) (fun _ => 0) (-1) (cn_mk hi (by show 18 + 6 * i < (20 + 6 * i); omega)) (fun _ => xv_13) (fun _ _ => xv_o13)) (xs_cw h0 hW0 m_81) (hts _ w_37) ⟨rfl, rfl, Nat.le_of_ble_eq_true rfl, Nat.le_of_ble_eq_true rfl⟩ (hl.1.trans hml.symm) (by rw [hb]; exact d_VE_init_67) (Nat.le_of_ble_eq_true rfl) ⟨Nat.le_of_ble_eq_true rfl, Nat.le_of_ble_eq_true rfl⟩ h hW0 (fun H locs h => ?_)
  refine lv_aload_n hx hb d_VE_init_70 rfl (lv_at hl 0 rfl) ?_
  refine xw_get (C := R_VE) (T := F_VE) (N := 13) (r := 9) (i := i) hx hb hts hi_VE hown hK h.1 (cn_mk hi (by show 14 + 6 * i < (20 + 6 * i); omega)) xv_9 rfl 4 (by decide) (hts _ w_90) rfl rfl d_VE_init_71 ?_
  refine lv_bipush (v := 100) hx hb d_VE_init_74 (by decide) ?_
  refine xc_k (rest := []) (x_invS (argsL := [.ref (xB s0 + XA 14 i), .int (100)]) hx hb hown (hts _ w_79) (hts _ w_80) (hts _ w_37) (x_code (hts _ w_81)) ⟨by decide, by decide⟩ rfl rfl rfl d_VE_init_76) (c_AR_fill h0 (N := (20 + 6 * i)) (r := 14) (i := i) (fun g => xv dA E0 i [.ref (xB s0 + XA 10 i), .ref (xB s0 + XA 11 i), .ref (xB s0 + XA 12 i), .ref (xB s0 + XA 13 i), .ref (xB s0 + XA 14 i), .int 0, .int 1000, .int 0, .int 0, .int (-1), .int (-1), .long 0, .long 0] (xf (fun _ => 0) (-1) 30) g) (fun _ => 0) (100) (cn_mk hi (by show 19 + 6 * i < (20 + 6 * i); omega)) (fun _ => xv_14) (fun _ _ => xv_o14)) (xs_cw h0 hW0 m_81) (hts _ w_37) ⟨rfl, rfl, Nat.le_of_ble_eq_true rfl, Nat.le_of_ble_eq_true rfl⟩ (hl.1.trans hml.symm) (by rw [hb]; exact d_VE_init_76) (Nat.le_of_ble_eq_true rfl) ⟨Nat.le_of_ble_eq_true rfl, Nat.le_of_ble_eq_true rfl⟩ h hW0 (fun H locs h => ?_)
  have h : XK D s0 (20 + 6 * i) E0 H locs := by
    have e := xv_full (dA := dA) (E0 := E0) (i := i) (fs := [.ref (xB s0 + XA 10 i), .ref (xB s0 + XA 11 i), .ref (xB s0 + XA 12 i), .ref (xB s0 + XA 13 i), .ref (xB s0 + XA 14 i), .int 0, .int 1000, .int 0, .int 0, .int (-1), .int (-1), .long 0, .long 0]) (f := (xf (fun _ => 0) (-1) 30)) (g := (xf (fun _ => 0) (100) 30)) hE9 hE13 hE14
    rw [e] at h
    exact h
  exact xk_v hx hb hr hlocks h d_VE_init_79
