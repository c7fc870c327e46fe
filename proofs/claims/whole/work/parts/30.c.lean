def xo (E : Nat → Nat → va_E) (r0 i0 : Nat) (e : va_E) : Nat → Nat → va_E := fun r i => if r = r0 ∧ i = i0 then e else E r i
theorem xo_o {E : Nat → Nat → va_E} {r0 i0 : Nat} {e e' : va_E} : ∀ r' i', ¬ (r' = r0 ∧ i' = i0) → xo E r0 i0 e' r' i' = xo E r0 i0 e r' i' := fun r' i' h => (if_neg h).trans (if_neg h).symm
theorem xo_full {E : Nat → Nat → va_E} {r0 i0 : Nat} {e : va_E} (h : E r0 i0 = e) : xo E r0 i0 e = E := by
  funext r i
  unfold xo
  split
  · rename_i q
    rw [q.1, q.2, h]
  · rfl
theorem xo_new {E : Nat → Nat → va_E} {r0 i0 n : Nat} {e : va_E} (hn : XA r0 i0 = n) : ∀ r' i', i' < cn n r' → xo E r0 i0 e r' i' = E r' i' := fun r' i' h => if_neg (fun q => by
  obtain ⟨rfl, rfl⟩ := q
  have := ((cn_iff _ _ _).mp h).2
  omega)
theorem xv_new {dA : Nat → ClassId} {E0 : Nat → Nat → va_E} {i n : Nat} {fs : List Value} {f g : Nat → Int32} (hn : 14 + 6 * i = n) : ∀ r' i', i' < cn n r' → xv dA E0 i fs f g r' i' = E0 r' i' := fun r' i' h => xv_e (fun q => by
  obtain ⟨rfl, q⟩ := q
  have h2 := ((cn_iff _ _ _).mp h).2
  rcases q with rfl | rfl | rfl
  · have h3 : 14 + 6 * i' < n := h2
    omega
  · have h3 : 18 + 6 * i' < n := h2
    omega
  · have h3 : 19 + 6 * i' < n := h2
    omega)
def gk (B k : Nat) : Nat → Option Nat := fun j => if j < k then some (B + XA 9 j) else none
theorem gk_0 (B : Nat) : gk B 0 = fun _ => none := funext fun _ => if_neg (Nat.not_lt_zero _)
theorem gk_s (B k : Nat) : gk B (k + 1) = va_up (gk B k) k (some (B + XA 9 k)) := by
  funext j
  unfold gk va_up
  by_cases h : j = k
  · subst h
    simp
  · by_cases h2 : j < k
    · simp [h, h2, Nat.lt_succ_of_lt h2]
    · simp [h, h2, show ¬ j < k + 1 by omega]
def xl (dA : Nat → ClassId) (B : Nat) (fs : List Value) (k : Nat) : Nat → Nat → va_E := fun r j => match r with
  | 0 => if j = 0 then .inr (0, fs) else .inr (0, [])
  | 6 => if j = 0 then .inl (dA 4, 16, .inr (.inr (.inr (.inr (gk B k))))) else .inr (0, [])
  | r => XE dA B xI0 r j
theorem xl_o0 {dA : Nat → ClassId} {B : Nat} {fs fs' : List Value} {k : Nat} : ∀ r' i', ¬ (r' = 0 ∧ i' = 0) → xl dA B fs' k r' i' = xl dA B fs k r' i' := fun r' i' h => by
  unfold xl
  split
  · split
    · rename_i q
      exact absurd ⟨rfl, q⟩ h
    · rfl
  · rfl
  · rfl
theorem xl_o6 {dA : Nat → ClassId} {B : Nat} {fs : List Value} {k k' : Nat} : ∀ r' i', ¬ (r' = 6 ∧ i' = 0) → xl dA B fs k' r' i' = xl dA B fs k r' i' := fun r' i' h => by
  unfold xl
  split
  · rfl
  · split
    · rename_i q
      exact absurd ⟨rfl, q⟩ h
    · rfl
  · rfl
theorem xl_60 {dA : Nat → ClassId} {B : Nat} {fs : List Value} : xl dA B fs 0 6 0 = .inl (dA 4, 16, .inr (.inr (.inr (.inr fun _ => none)))) := by
  show (.inl (dA 4, 16, .inr (.inr (.inr (.inr (gk B 0))))) : va_E) = _
  rw [gk_0]
theorem xl_6s {dA : Nat → ClassId} {B : Nat} {fs : List Value} {k : Nat} {j : Int32} (hj : j.toNatClampNeg = k) : xl dA B fs (k + 1) 6 0 = .inl (dA 4, 16, .inr (.inr (.inr (.inr (va_up (gk B k) j.toNatClampNeg (some (B + XA 9 k))))))) := by
  rw [hj, ← gk_s]
  rfl
theorem xl_full {D : va_G} {s0 : State} {dA : Nat → ClassId} {n : Nat} {H : Heap} {locs : List Loc} {fs : List Value} (hfs : XE dA (xB s0) xI0 0 0 = .inr (0, fs)) (h : XK D s0 n (xl dA (xB s0) fs 16) H locs) : XK D s0 n (XE dA (xB s0) xI0) H locs := by
  refine ⟨fun r i hi => ?_, h.2⟩
  have h1 := h.1 r i hi
  have h2 := ((cn_iff _ _ _).mp hi).1
  by_cases h6 : r = 6
  · subst h6
    have hi0 : i = 0 := by
      have : i < 1 := h2
      omega
    subst hi0
    have h3 : H[xB s0 + XA 6 0]? = some (vp_cell (dA 4) (16, .inr (.inr (.inr (.inr (gk (xB s0) 16)))))) := h1
    show H[xB s0 + XA 6 0]? = some (vp_cell (dA 4) (16, .inr (.inr (.inr (.inr fun j => some (xB s0 + XA 9 j))))))
    rw [h3, vp_cell_q, vp_cell_q]
    refine congrArg some (x_arrV fun j hj => ?_)
    show va_rf (gk (xB s0) 16 j) = _
    unfold gk
    rw [if_pos hj]
  · by_cases h0 : r = 0
    · subst h0
      have hi0 : i = 0 := by
        have : i < 1 := h2
        omega
      subst hi0
      rw [hfs]
      exact h1
    · have e : xl dA (xB s0) fs 16 r i = XE dA (xB s0) xI0 r i := by
        unfold xl
        split
        · exact absurd rfl h0
        · exact absurd rfl h6
        · rfl
      rw [← e]
      exact h1

abbrev rm_RW_init : Room := { frames := 1, cells := 1, slots := 300, locals := 12 }
set_option maxHeartbeats 8000000 in
set_option maxRecDepth 100000 in
theorem c_RW_init {l : Launch} {s0 : State} {A0 : Array Value} {D : va_G} {dA : Nat → ClassId} (h0 : XS0 l s0 A0 D dA) (E0 : Nat → Nat → va_E) (hE7 : E0 7 0 = .inr (2, [.ref (xB s0 + XA 8 0), .long 0])) (hE8 : E0 8 0 = .inl (dA 0, 300, .inl fun _ => 0)) : XMet l y_RW_init [cw_RW_init] rm_RW_init (XPk D s0 13 (xo E0 7 0 (.inr (2, [.null, .long 0]))) [.ref (xB s0 + XA 7 0)]) (XQk D s0 14 E0) 1 300 (xAm s0) := by
  refine XMet.ofW (cc := b_RW_init) (maxL := 1) (ret := none) (by decide) rfl ?_
  intro p e s m args below meth c s₁ Bd hml hvA
  obtain ⟨rfl, hX, hO⟩ := hvA
  have hx := Bd.exec
  have hb := Bd.bytes
  have hr := Bd.returns
  have hown : s.vm.findClass "LoadChecks$Rows" = some m.cls := findClass_of_methodNamed Bd.named
  have hlocks := Bd.notSynchronized
  have hin2 : meth.name = "<init>" := (name_of_methodNamed Bd.named Bd.method).1
  have hW0 := hO.1
  have hts := xs_w (args := ([.ref (xB s0 + XA 7 0)] : List Value).toArray) h0 hW0
  have hK := xs_K h0 hW0
  have h : XK D s0 13 (xo E0 7 0 (.inr (2, [.null, .long 0]))) s.heap [] := ⟨hX.1, hX.2, xo_S0 hO⟩
  have hl := lv_entry ([.ref (xB s0 + XA 7 0)]) (n := 1) (Nat.le_of_ble_eq_true rfl)
  rw [lg_entry_eq]
  generalize (lg_sl ([.ref (xB s0 + XA 7 0)]) ++ List.replicate (1 - (lg_sl ([.ref (xB s0 + XA 7 0)])).length) Slot.unset).toArray = ls at hl ⊢
  have hl : lv_has ls 1 [(0, .ref (xB s0 + XA 7 0))] := hl
  refine lv_aload_n hx hb d_RW_init_0 rfl (lv_at hl 0 rfl) ?_
  refine W.objInit hx hb hown (hts _ w_65) (hts _ w_54) (hts _ w_55) rfl (hl.1.trans hml.symm) rfl d_RW_init_1 (Nat.le_of_ble_eq_true rfl) (Nat.le_of_ble_eq_true rfl) ?_
  show W _ _ _ _ _ _ _ _ _ _ _ _ _ _ _ (F0 m 4 ls [])
  refine lv_aload_n hx hb d_RW_init_4 rfl (lv_at hl 0 rfl) ?_
  refine lv_sipush (v := 300) hx hb d_RW_init_5 (by decide) ?_
  refine xk_newa hx hb (ty := .int) (x_ac hW0.alike (h0.2.1 _ m_73)) hK 0 rfl rfl (fun q => q) h 8 0 14 rfl (by decide) rfl (N := 300) (a0 := (300, .inl fun _ => 0)) (fun _ => rfl) (by decide) rfl (by decide) (Nat.le_of_ble_eq_true rfl) (Nat.le_of_ble_eq_true rfl) (E' := (xo E0 7 0 (.inr (2, [.null, .long 0])))) (hE8) (fun _ _ _ => rfl) d_RW_init_8 (fun H h => ?_)
  refine xw_putF (C := R_RW) (T := F_RW) (N := 2) (ent' := (xo E0 7 0 (.inr (2, [.ref (xB s0 + XA 8 0), .long 0])))) hx hb hts hi_RW t_RW t_RW_ok n_RW hown hK (cn_inj _) h.1 h.2.2 7 0 (xA_in _ _ _) (by decide) rfl rfl 0 (by decide) (hts _ w_66) rfl rfl hin2 rfl (v := .ref (xB s0 + XA 8 0)) rfl rfl rfl (Nat.le_of_ble_eq_true rfl) rfl xo_o d_RW_init_10 (fun H locs hX1 hz1 hS1 => ?_)
  have h : XK D s0 14 (xo E0 7 0 (.inr (2, [.ref (xB s0 + XA 8 0), .long 0]))) H locs := ⟨hX1, by rw [hz1]; exact h.2.1, hS1⟩
  rw [xo_full hE7] at h
  exact xk_v hx hb hr hlocks h d_RW_init_13

abbrev rm_MO_init : Room := { frames := 1, cells := 15, slots := 6966, locals := 12 }
set_option maxHeartbeats 8000000 in
set_option maxRecDepth 100000 in
theorem c_MO_init {l : Launch} {s0 : State} {A0 : Array Value} {D : va_G} {dA : Nat → ClassId} (h0 : XS0 l s0 A0 D dA)  : XMet l y_MO_init [cw_MO_init] rm_MO_init (XPk D s0 111 (xo (XE dA (xB s0) xI0) 15 0 (.inr (3, [.int 0, .int 0, .int 0, .null, .null, .null, .int 0, .null, .null, .null, .null, .null, .null, .null, .null, .null, .null, .null, .int 0, .null]))) [.ref (xB s0 + XA 15 0)]) (XQk D s0 126 (XE dA (xB s0) xI0)) 15 6966 (xAm s0) := by
  refine XMet.ofW (cc := b_MO_init) (maxL := 1) (ret := none) (by decide) rfl ?_
  intro p e s m args below meth c s₁ Bd hml hvA
  obtain ⟨rfl, hX, hO⟩ := hvA
  have hx := Bd.exec
  have hb := Bd.bytes
  have hr := Bd.returns
  have hown : s.vm.findClass "LoadChecksModel" = some m.cls := findClass_of_methodNamed Bd.named
  have hlocks := Bd.notSynchronized
  have hin2 : meth.name = "<init>" := (name_of_methodNamed Bd.named Bd.method).1
  have hW0 := hO.1
  have hts := xs_w (args := ([.ref (xB s0 + XA 15 0)] : List Value).toArray) h0 hW0
  have hK := xs_K h0 hW0
  have h : XK D s0 111 (xo (XE dA (xB s0) xI0) 15 0 (.inr (3, [.int 0, .int 0, .int 0, .null, .null, .null, .int 0, .null, .null, .null, .null, .null, .null, .null, .null, .null, .null, .null, .int 0, .null]))) s.heap [] := ⟨hX.1, hX.2, xo_S0 hO⟩
  have hl := lv_entry ([.ref (xB s0 + XA 15 0)]) (n := 1) (Nat.le_of_ble_eq_true rfl)
  rw [lg_entry_eq]
  generalize (lg_sl ([.ref (xB s0 + XA 15 0)]) ++ List.replicate (1 - (lg_sl ([.ref (xB s0 + XA 15 0)])).length) Slot.unset).toArray = ls at hl ⊢
  have hl : lv_has ls 1 [(0, .ref (xB s0 + XA 15 0))] := hl
  refine lv_aload_n hx hb d_MO_init_0 rfl (lv_at hl 0 rfl) ?_
  refine W.objInit hx hb hown (hts _ w_594) (hts _ w_54) (hts _ w_55) rfl (hl.1.trans hml.symm) rfl d_MO_init_1 (Nat.le_of_ble_eq_true rfl) (Nat.le_of_ble_eq_true rfl) ?_
  show W _ _ _ _ _ _ _ _ _ _ _ _ _ _ _ (F0 m 4 ls [])
  refine lv_aload_n hx hb d_MO_init_4 rfl (lv_at hl 0 rfl) ?_
  refine lv_bipush (v := 30) hx hb d_MO_init_5 (by decide) ?_
  refine xk_newa hx hb (ty := .int) (x_ac hW0.alike (h0.2.1 _ m_73)) hK 0 rfl rfl (fun q => q) h 16 0 112 rfl (by decide) rfl (N := 30) (a0 := (30, .inl fun _ => 0)) (fun _ => rfl) (by decide) rfl (by decide) (Nat.le_of_ble_eq_true rfl) (Nat.le_of_ble_eq_true rfl) (E' := (xo (XE dA (xB s0) xI0) 15 0 (.inr (3, [.int 0, .int 0, .int 0, .null, .null, .null, .int 0, .null, .null, .null, .null, .null, .null, .null, .null, .null, .null, .null, .int 0, .null])))) rfl (fun _ _ _ => rfl) d_MO_init_7 (fun H h => ?_)
  refine xw_putF (C := R_MO) (T := F_MO) (N := 20) (ent' := (xo (XE dA (xB s0) xI0) 15 0 (.inr (3, [.int 0, .int 0, .int 0, .ref (xB s0 + XA 16 0), .null, .null, .int 0, .null, .null, .null, .null, .null, .null, .null, .null, .null, .null, .null, .int 0, .null])))) hx hb hts hi_MO t_MO t_MO_ok n_MO hown hK (cn_inj _) h.1 h.2.2 15 0 (xA_in _ _ _) (by decide) rfl rfl 3 (by decide) (hts _ w_598) rfl rfl hin2 rfl (v := .ref (xB s0 + XA 16 0)) rfl rfl rfl (Nat.le_of_ble_eq_true rfl) rfl xo_o d_MO_init_9 (fun H locs hX1 hz1 hS1 => ?_)
  have h : XK D s0 112 (xo (XE dA (xB s0) xI0) 15 0 (.inr (3, [.int 0, .int 0, .int 0, .ref (xB s0 + XA 16 0), .null, .null, .int 0, .null, .null, .null, .null, .null, .null, .null, .null, .null, .null, .null, .int 0, .null]))) H locs := ⟨hX1, by rw [hz1]; exact h.2.1, hS1⟩
  refine lv_aload_n hx hb d_MO_init_12 rfl (lv_at hl 0 rfl) ?_
  refine lv_bipush (v := 30) hx hb d_MO_init_13 (by decide) ?_
  refine xk_newa hx hb (ty := .int) (x_ac hW0.alike (h0.2.1 _ m_73)) hK 0 rfl rfl (fun q => q) h 17 0 113 rfl (by decide) rfl (N := 30) (a0 := (30, .inl fun _ => 0)) (fun _ => rfl) (by decide) rfl (by decide) (Nat.le_of_ble_eq_true rfl) (Nat.le_of_ble_eq_true rfl) (E' := (xo (XE dA (xB s0) xI0) 15 0 (.inr (3, [.int 0, .int 0, .int 0, .ref (xB s0 + XA 16 0), .null, .null, .int 0, .null, .null, .null, .null, .null, .null, .null, .null, .null, .null, .null, .int 0, .null])))) rfl (fun _ _ _ => rfl) d_MO_init_15 (fun H h => ?_)
  refine xw_putF (C := R_MO) (T := F_MO) (N := 20) (ent' := (xo (XE dA (xB s0) xI0) 15 0 (.inr (3, [.int 0, .int 0, .int 0, .ref (xB s0 + XA 16 0), .ref (xB s0 + XA 17 0), .null, .int 0, .null, .null, .null, .null, .null, .null, .null, .null, .null, .null, .null, .int 0, .null])))) hx hb hts hi_MO t_MO t_MO_ok n_MO hown hK (cn_inj _) h.1 h.2.2 15 0 (xA_in _ _ _) (by decide) rfl rfl 4 (by decide) (hts _ w_599) rfl rfl hin2 rfl (v := .ref (xB s0 + XA 17 0)) rfl rfl rfl (Nat.le_of_ble_eq_true rfl) rfl xo_o d_MO_init_17 (fun H locs hX1 hz1 hS1 => ?_)
  have h : XK D s0 113 (xo (XE dA (xB s0) xI0) 15 0 (.inr (3, [.int 0, .int 0, .int 0, .ref (xB s0 + XA 16 0), .ref (xB s0 + XA 17 0), .null, .int 0, .null, .null, .null, .null, .null, .null, .null, .null, .null, .null, .null, .int 0, .null]))) H locs := ⟨hX1, by rw [hz1]; exact h.2.1, hS1⟩
  refine lv_aload_n hx hb d_MO_init_20 rfl (lv_at hl 0 rfl) ?_
  refine lv_bipush (v := 30) hx hb d_MO_init_21 (by decide) ?_
  refine xk_newa hx hb (ty := .int) (x_ac hW0.alike (h0.2.1 _ m_73)) hK 0 rfl rfl (fun q => q) h 18 0 114 rfl (by decide) rfl (N := 30) (a0 := (30, .inl fun _ => 0)) (fun _ => rfl) (by decide) rfl (by decide) (Nat.le_of_ble_eq_true rfl) (Nat.le_of_ble_eq_true rfl) (E' := (xo (XE dA (xB s0) xI0) 15 0 (.inr (3, [.int 0, .int 0, .int 0, .ref (xB s0 + XA 16 0), .ref (xB s0 + XA 17 0), .null, .int 0, .null, .null, .null, .null, .null, .null, .null, .null, .null, .null, .null, .int 0, .null])))) rfl (fun _ _ _ => rfl) d_MO_init_23 (fun H h => ?_)
  refine xw_putF (C := R_MO) (T := F_MO) (N := 20) (ent' := (xo (XE dA (xB s0) xI0) 15 0 (.inr (3, [.int 0, .int 0, .int 0, .ref (xB s0 + XA 16 0), .ref (xB s0 + XA 17 0), .ref (xB s0 + XA 18 0), .int 0, .null, .null, .null, .null, .null, .null, .null, .null, .null, .null, .null, .int 0, .null])))) hx hb hts hi_MO t_MO t_MO_ok n_MO hown hK (cn_inj _) h.1 h.2.2 15 0 (xA_in _ _ _) (by decide) rfl rfl 5 (by decide) (hts _ w_600) rfl rfl hin2 rfl (v := .ref (xB s0 + XA 18 0)) rfl rfl rfl (Nat.le_of_ble_eq_true rfl) rfl xo_o d_MO_init_25 (fun H locs hX1 hz1 hS1 => ?_)
  have h : XK D s0 114 (xo (XE dA (xB s0) xI0) 15 0 (.inr (3, [.int 0, .int 0, .int 0, .ref (xB s0 + XA 16 0), .ref (xB s0 + XA 17 0), .ref (xB s0 + XA 18 0), .int 0, .null, .null, .null, .null, .null, .null, .null, .null, .null, .null, .null, .int 0, .null]))) H locs := ⟨hX1, by rw [hz1]; exact h.2.1, hS1⟩
  refine lv_aload_n hx hb d_MO_init_28 rfl (lv_at hl 0 rfl) ?_
  refine lv_bipush (v := 16) hx hb d_MO_init_29 (by decide) ?_
  refine xk_newa hx hb (ty := .int) (x_ac hW0.alike (h0.2.1 _ m_73)) hK 0 rfl rfl (fun q => q) h 19 0 115 rfl (by decide) rfl (N := 16) (a0 := (16, .inl fun _ => 0)) (fun _ => rfl) (by decide) rfl (by decide) (Nat.le_of_ble_eq_true rfl) (Nat.le_of_ble_eq_true rfl) (E' := (xo (XE dA (xB s0) xI0) 15 0 (.inr (3, [.int 0, .int 0, .int 0, .ref (xB s0 + XA 16 0), .ref (xB s0 + XA 17 0), .ref (xB s0 + XA 18 0), .int 0, .null, .null, .null, .null, .null, .null, .null, .null, .null, .null, .null, .int 0, .null])))) rfl (fun _ _ _ => rfl) d_MO_init_31 (fun H h => ?_)
  refine xw_putF (C := R_MO) (T := F_MO) (N := 20) (ent' := (xo (XE dA (xB s0) xI0) 15 0 (.inr (3, [.int 0, .int 0, .int 0, .ref (xB s0 + XA 16 0), .ref (xB s0 + XA 17 0), .ref (xB s0 + XA 18 0), .int 0, .ref (xB s0 + XA 19 0), .null, .null, .null, .null, .null, .null, .null, .null, .null, .null, .int 0, .null])))) hx hb hts hi_MO t_MO t_MO_ok n_MO hown hK (cn_inj _) h.1 h.2.2 15 0 (xA_in _ _ _) (by decide) rfl rfl 7 (by decide) (hts _ w_602) rfl rfl hin2 rfl (v := .ref (xB s0 + XA 19 0)) rfl rfl rfl (Nat.le_of_ble_eq_true rfl) rfl xo_o d_MO_init_33 (fun H locs hX1 hz1 hS1 => ?_)
  have h : XK D s0 115 (xo (XE dA (xB s0) xI0) 15 0 (.inr (3, [.int 0, .int 0, .int 0, .ref (xB s0 + XA 16 0), .ref (xB s0 + XA 17 0), .ref (xB s0 + XA 18 0), .int 0, .ref (xB s0 + XA 19 0), .null, .null, .null, .null, .null, .null, .null, .null, .null, .null, .int 0, .null]))) H locs := ⟨hX1, by rw [hz1]; exact h.2.1, hS1⟩
  refine lv_aload_n hx hb d_MO_init_36 rfl (lv_at hl 0 rfl) ?_
  refine lv_bipush (v := 16) hx hb d_MO_init_37 (by decide) ?_
  refine xk_newa hx hb (ty := .int) (x_ac hW0.alike (h0.2.1 _ m_73)) hK 0 rfl rfl (fun q => q) h 20 0 116 rfl (by decide) rfl (N := 16) (a0 := (16, .inl fun _ => 0)) (fun _ => rfl) (by decide) rfl (by decide) (Nat.le_of_ble_eq_true rfl) (Nat.le_of_ble_eq_true rfl) (E' := (xo (XE dA (xB s0) xI0) 15 0 (.inr (3, [.int 0, .int 0, .int 0, .ref (xB s0 + XA 16 0), .ref (xB s0 + XA 17 0), .ref (xB s0 + XA 18 0), .int 0, .ref (xB s0 + XA 19 0), .null, .null, .null, .null, .null, .null, .null, .null, .null, .null, .int 0, .null])))) rfl (fun _ _ _ => rfl) d_MO_init_39 (fun H h => ?_)
  refine xw_putF (C := R_MO) (T := F_MO) (N := 20) (ent' := (xo (XE dA (xB s0) xI0) 15 0 (.inr (3, [.int 0, .int 0, .int 0, .ref (xB s0 + XA 16 0), .ref (xB s0 + XA 17 0), .ref (xB s0 + XA 18 0), .int 0, .ref (xB s0 + XA 19 0), .ref (xB s0 + XA 20 0), .null, .null, .null, .null, .null, .null, .null, .null, .null, .int 0, .null])))) hx hb hts hi_MO t_MO t_MO_ok n_MO hown hK (cn_inj _) h.1 h.2.2 15 0 (xA_in _ _ _) (by decide) rfl rfl 8 (by decide) (hts _ w_603) rfl rfl hin2 rfl (v := .ref (xB s0 + XA 20 0)) rfl rfl rfl (Nat.le_of_ble_eq_true rfl) rfl xo_o d_MO_init_41 (fun H locs hX1 hz1 hS1 => ?_)
  have h : XK D s0 116 (xo (XE dA (xB s0) xI0) 15 0 (.inr (3, [.int 0, .int 0, .int 0, .ref (xB s0 + XA 16 0), .ref (xB s0 + XA 17 0), .ref (xB s0 + XA 18 0), .int 0, .ref (xB s0 + XA 19 0), .ref (xB s0 + XA 20 0), .null, .null, .null, .null, .null, .null, .null, .null, .null, .int 0, .null]))) H locs := ⟨hX1, by rw [hz1]; exact h.2.1, hS1⟩
  refine lv_aload_n hx hb d_MO_init_44 rfl (lv_at hl 0 rfl) ?_
  refine lv_bipush (v := 16) hx hb d_MO_init_45 (by decide) ?_
  refine xk_newa hx hb (ty := .int) (x_ac hW0.alike (h0.2.1 _ m_73)) hK 0 rfl rfl (fun q => q) h 21 0 117 rfl (by decide) rfl (N := 16) (a0 := (16, .inl fun _ => 0)) (fun _ => rfl) (by decide) rfl (by decide) (Nat.le_of_ble_eq_true rfl) (Nat.le_of_ble_eq_true rfl) (E' := (xo (XE dA (xB s0) xI0) 15 0 (.inr (3, [.int 0, .int 0, .int 0, .ref (xB s0 + XA 16 0), .ref (xB s0 + XA 17 0), .ref (xB s0 + XA 18 0), .int 0, .ref (xB s0 + XA 19 0), .ref (xB s0 + XA 20 0), .null, .null, .null, .null, .null, .null, .null, .null, .null, .int 0, .null])))) rfl (fun _ _ _ => rfl) d_MO_init_47 (fun H h => ?_)
  refine xw_putF (C := R_MO) (T := F_MO) (N := 20) (ent' := (xo (XE dA (xB s0) xI0) 15 0 (.inr (3, [.int 0, .int 0, .int 0, .ref (xB s0 + XA 16 0), .ref (xB s0 + XA 17 0), .ref (xB s0 + XA 18 0), .int 0, .ref (xB s0 + XA 19 0), .ref (xB s0 + XA 20 0), .ref (xB s0 + XA 21 0), .null, .null, .null, .null, .null, .null, .null, .null, .int 0, .null])))) hx hb hts hi_MO t_MO t_MO_ok n_MO hown hK (cn_inj _) h.1 h.2.2 15 0 (xA_in _ _ _) (by decide) rfl rfl 9 (by decide) (hts _ w_604) rfl rfl hin2 rfl (v := .ref (xB s0 + XA 21 0)) rfl rfl rfl (Nat.le_of_ble_eq_true rfl) rfl xo_o d_MO_init_49 (fun H locs hX1 hz1 hS1 => ?_)
  have h : XK D s0 117 (xo (XE dA (xB s0) xI0) 15 0 (.inr (3, [.int 0, .int 0, .int 0, .ref (xB s0 + XA 16 0), .ref (xB s0 + XA 17 0), .ref (xB s0 + XA 18 0), .int 0, .ref (xB s0 + XA 19 0), .ref (xB s0 + XA 20 0), .ref (xB s0 + XA 21 0), .null, .null, .null, .null, .null, .null, .null, .null, .int 0, .null]))) H locs := ⟨hX1, by rw [hz1]; exact h.2.1, hS1⟩
  refine lv_aload_n hx hb d_MO_init_52 rfl (lv_at hl 0 rfl) ?_
  refine lv_bipush (v := 16) hx hb d_MO_init_53 (by decide) ?_
  refine xk_newa hx hb (ty := .int) (x_ac hW0.alike (h0.2.1 _ m_73)) hK 0 rfl rfl (fun q => q) h 22 0 118 rfl (by decide) rfl (N := 16) (a0 := (16, .inl fun _ => 0)) (fun _ => rfl) (by decide) rfl (by decide) (Nat.le_of_ble_eq_true rfl) (Nat.le_of_ble_eq_true rfl) (E' := (xo (XE dA (xB s0) xI0) 15 0 (.inr (3, [.int 0, .int 0, .int 0, .ref (xB s0 + XA 16 0), .ref (xB s0 + XA 17 0), .ref (xB s0 + XA 18 0), .int 0, .ref (xB s0 + XA 19 0), .ref (xB s0 + XA 20 0), .ref (xB s0 + XA 21 0), .null, .null, .null, .null, .null, .null, .null, .null, .int 0, .null])))) rfl (fun _ _ _ => rfl) d_MO_init_55 (fun H h => ?_)
  refine xw_putF (C := R_MO) (T := F_MO) (N := 20) (ent' := (xo (XE dA (xB s0) xI0) 15 0 (.inr (3, [.int 0, .int 0, .int 0, .ref (xB s0 + XA 16 0), .ref (xB s0 + XA 17 0), .ref (xB s0 + XA 18 0), .int 0, .ref (xB s0 + XA 19 0), .ref (xB s0 + XA 20 0), .ref (xB s0 + XA 21 0), .ref (xB s0 + XA 22 0), .null, .null, .null, .null, .null, .null, .null, .int 0, .null])))) hx hb hts hi_MO t_MO t_MO_ok n_MO hown hK (cn_inj _) h.1 h.2.2 15 0 (xA_in _ _ _) (by decide) rfl rfl 10 (by decide) (hts _ w_605) rfl rfl hin2 rfl (v := .ref (xB s0 + XA 22 0)) rfl rfl rfl (Nat.le_of_ble_eq_true rfl) rfl xo_o d_MO_init_57 (fun H locs hX1 hz1 hS1 => ?_)
  have h : XK D s0 118 (xo (XE dA (xB s0) xI0) 15 0 (.inr (3, [.int 0, .int 0, .int 0, .ref (xB s0 + XA 16 0), .ref (xB s0 + XA 17 0), .ref (xB s0 + XA 18 0), .int 0, .ref (xB s0 + XA 19 0), .ref (xB s0 + XA 20 0), .ref (xB s0 + XA 21 0), .ref (xB s0 + XA 22 0), .null, .null, .null, .null, .null, .null, .null, .int 0, .null]))) H locs := ⟨hX1, by rw [hz1]; exact h.2.1, hS1⟩
  refine lv_aload_n hx hb d_MO_init_60 rfl (lv_at hl 0 rfl) ?_
  refine lv_bipush (v := 16) hx hb d_MO_init_61 (by decide) ?_
  refine xk_newa hx hb (ty := .int) (x_ac hW0.alike (h0.2.1 _ m_73)) hK 0 rfl rfl (fun q => q) h 23 0 119 rfl (by decide) rfl (N := 16) (a0 := (16, .inl fun _ => 0)) (fun _ => rfl) (by decide) rfl (by decide) (Nat.le_of_ble_eq_true rfl) (Nat.le_of_ble_eq_true rfl) (E' := (xo (XE dA (xB s0) xI0) 15 0 (.inr (3, [.int 0, .int 0, .int 0, .ref (xB s0 + XA 16 0), .ref (xB s0 + XA 17 0), .ref (xB s0 + XA 18 0), .int 0, .ref (xB s0 + XA 19 0), .ref (xB s0 + XA 20 0), .ref (xB s0 + XA 21 0), .ref (xB s0 + XA 22 0), .null, .null, .null, .null, .null, .null, .null, .int 0, .null])))) rfl (fun _ _ _ => rfl) d_MO_init_63 (fun H h => ?_)
  refine xw_putF (C := R_MO) (T := F_MO) (N := 20) (ent' := (xo (XE dA (xB s0) xI0) 15 0 (.inr (3, [.int 0, .int 0, .int 0, .ref (xB s0 + XA 16 0), .ref (xB s0 + XA 17 0), .ref (xB s0 + XA 18 0), .int 0, .ref (xB s0 + XA 19 0), .ref (xB s0 + XA 20 0), .ref (xB s0 + XA 21 0), .ref (xB s0 + XA 22 0), .ref (xB s0 + XA 23 0), .null, .null, .null, .null, .null, .null, .int 0, .null])))) hx hb hts hi_MO t_MO t_MO_ok n_MO hown hK (cn_inj _) h.1 h.2.2 15 0 (xA_in _ _ _) (by decide) rfl rfl 11 (by decide) (hts _ w_606) rfl rfl hin2 rfl (v := .ref (xB s0 + XA 23 0)) rfl rfl rfl (Nat.le_of_ble_eq_true rfl) rfl xo_o d_MO_init_65 (fun H locs hX1 hz1 hS1 => ?_)
  have h : XK D s0 119 (xo (XE dA (xB s0) xI0) 15 0 (.inr (3, [.int 0, .int 0, .int 0, .ref (xB s0 + XA 16 0), .ref (xB s0 + XA 17 0), .ref (xB s0 + XA 18 0), .int 0, .ref (xB s0 + XA 19 0), .ref (xB s0 + XA 20 0), .ref (xB s0 + XA 21 0), .ref (xB s0 + XA 22 0), .ref (xB s0 + XA 23 0), .null, .null, .null, .null, .null, .null, .int 0, .null]))) H locs := ⟨hX1, by rw [hz1]; exact h.2.1, hS1⟩
  refine lv_aload_n hx hb d_MO_init_68 rfl (lv_at hl 0 rfl) ?_
  refine lv_sipush (v := 128) hx hb d_MO_init_69 (by decide) ?_
  refine xk_newa hx hb (ty := .int) (x_ac hW0.alike (h0.2.1 _ m_73)) hK 0 rfl rfl (fun q => q) h 24 0 120 rfl (by decide) rfl (N := 128) (a0 := (128, .inl fun _ => 0)) (fun _ => rfl) (by decide) rfl (by decide) (Nat.le_of_ble_eq_true rfl) (Nat.le_of_ble_eq_true rfl) (E' := (xo (XE dA (xB s0) xI0) 15 0 (.inr (3, [.int 0, .int 0, .int 0, .ref (xB s0 + XA 16 0), .ref (xB s0 + XA 17 0), .ref (xB s0 + XA 18 0), .int 0, .ref (xB s0 + XA 19 0), .ref (xB s0 + XA 20 0), .ref (xB s0 + XA 21 0), .ref (xB s0 + XA 22 0), .ref (xB s0 + XA 23 0), .null, .null, .null, .null, .null, .null, .int 0, .null])))) rfl (fun _ _ _ => rfl) d_MO_init_72 (fun H h => ?_)
  refine xw_putF (C := R_MO) (T := F_MO) (N := 20) (ent' := (xo (XE dA (xB s0) xI0) 15 0 (.inr (3, [.int 0, .int 0, .int 0, .ref (xB s0 + XA 16 0), .ref (xB s0 + XA 17 0), .ref (xB s0 + XA 18 0), .int 0, .ref (xB s0 + XA 19 0), .ref (xB s0 + XA 20 0), .ref (xB s0 + XA 21 0), .ref (xB s0 + XA 22 0), .ref (xB s0 + XA 23 0), .ref (xB s0 + XA 24 0), .null, .null, .null, .null, .null, .int 0, .null])))) hx hb hts hi_MO t_MO t_MO_ok n_MO hown hK (cn_inj _) h.1 h.2.2 15 0 (xA_in _ _ _) (by decide) rfl rfl 12 (by decide) (hts _ w_607) rfl rfl hin2 rfl (v := .ref (xB s0 + XA 24 0)) rfl rfl rfl (Nat.le_of_ble_eq_true rfl) rfl xo_o d_MO_init_74 (fun H locs hX1 hz1 hS1 => ?_)
  have h : XK D s0 120 (xo (XE dA (xB s0) xI0) 15 0 (.inr (3, [.int 0, .int 0, .int 0, .ref (xB s0 + XA 16 0), .ref (xB s0 + XA 17 0), .ref (xB s0 + XA 18 0), .int 0, .ref (xB s0 + XA 19 0), .ref (xB s0 + XA 20 0), .ref (xB s0 + XA 21 0), .ref (xB s0 + XA 22 0), .ref (xB s0 + XA 23 0), .ref (xB s0 + XA 24 0), .null, .null, .null, .null, .null, .int 0, .null]))) H locs := ⟨hX1, by rw [hz1]; exact h.2.1, hS1⟩
  refine lv_aload_n hx hb d_MO_init_77 rfl (lv_at hl 0 rfl) ?_
  refine lv_sipush (v := 128) hx hb d_MO_init_78 (by decide) ?_
  refine xk_newa hx hb (ty := .boolean) (x_ac hW0.alike (h0.2.1 _ m_132)) hK 1 rfl rfl (fun q => q) h 25 0 121 rfl (by decide) rfl (N := 128) (a0 := (128, .inl fun _ => 0)) (fun _ => rfl) (by decide) rfl (by decide) (Nat.le_of_ble_eq_true rfl) (Nat.le_of_ble_eq_true rfl) (E' := (xo (XE dA (xB s0) xI0) 15 0 (.inr (3, [.int 0, .int 0, .int 0, .ref (xB s0 + XA 16 0), .ref (xB s0 + XA 17 0), .ref (xB s0 + XA 18 0), .int 0, .ref (xB s0 + XA 19 0), .ref (xB s0 + XA 20 0), .ref (xB s0 + XA 21 0), .ref (xB s0 + XA 22 0), .ref (xB s0 + XA 23 0), .ref (xB s0 + XA 24 0), .null, .null, .null, .null, .null, .int 0, .null])))) rfl (fun _ _ _ => rfl) d_MO_init_81 (fun H h => ?_)
  refine xw_putF (C := R_MO) (T := F_MO) (N := 20) (ent' := (xo (XE dA (xB s0) xI0) 15 0 (.inr (3, [.int 0, .int 0, .int 0, .ref (xB s0 + XA 16 0), .ref (xB s0 + XA 17 0), .ref (xB s0 + XA 18 0), .int 0, .ref (xB s0 + XA 19 0), .ref (xB s0 + XA 20 0), .ref (xB s0 + XA 21 0), .ref (xB s0 + XA 22 0), .ref (xB s0 + XA 23 0), .ref (xB s0 + XA 24 0), .ref (xB s0 + XA 25 0), .null, .null, .null, .null, .int 0, .null])))) hx hb hts hi_MO t_MO t_MO_ok n_MO hown hK (cn_inj _) h.1 h.2.2 15 0 (xA_in _ _ _) (by decide) rfl rfl 13 (by decide) (hts _ w_608) rfl rfl hin2 rfl (v := .ref (xB s0 + XA 25 0)) rfl rfl rfl (Nat.le_of_ble_eq_true rfl) rfl xo_o d_MO_init_83 (fun H locs hX1 hz1 hS1 => ?_)
  have h : XK D s0 121 (xo (XE dA (xB s0) xI0) 15 0 (.inr (3, [.int 0, .int 0, .int 0, .ref (xB s0 + XA 16 0), .ref (xB s0 + XA 17 0), .ref (xB s0 + XA 18 0), .int 0, .ref (xB s0 + XA 19 0), .ref (xB s0 + XA 20 0), .ref (xB s0 + XA 21 0), .ref (xB s0 + XA 22 0), .ref (xB s0 + XA 23 0), .ref (xB s0 + XA 24 0), .ref (xB s0 + XA 25 0), .null, .null, .null, .null, .int 0, .null]))) H locs := ⟨hX1, by rw [hz1]; exact h.2.1, hS1⟩
  refine lv_aload_n hx hb d_MO_init_86 rfl (lv_at hl 0 rfl) ?_
  refine lv_sipush (v := 480) hx hb d_MO_init_87 (by decide) ?_
  refine xk_newa hx hb (ty := .int) (x_ac hW0.alike (h0.2.1 _ m_73)) hK 0 rfl rfl (fun q => q) h 26 0 122 rfl (by decide) rfl (N := 480) (a0 := (480, .inl fun _ => 0)) (fun _ => rfl) (by decide) rfl (by decide) (Nat.le_of_ble_eq_true rfl) (Nat.le_of_ble_eq_true rfl) (E' := (xo (XE dA (xB s0) xI0) 15 0 (.inr (3, [.int 0, .int 0, .int 0, .ref (xB s0 + XA 16 0), .ref (xB s0 + XA 17 0), .ref (xB s0 + XA 18 0), .int 0, .ref (xB s0 + XA 19 0), .ref (xB s0 + XA 20 0), .ref (xB s0 + XA 21 0), .ref (xB s0 + XA 22 0), .ref (xB s0 + XA 23 0), .ref (xB s0 + XA 24 0), .ref (xB s0 + XA 25 0), .null, .null, .null, .null, .int 0, .null])))) rfl (fun _ _ _ => rfl) d_MO_init_90 (fun H h => ?_)
  refine xw_putF (C := R_MO) (T := F_MO) (N := 20) (ent' := (xo (XE dA (xB s0) xI0) 15 0 (.inr (3, [.int 0, .int 0, .int 0, .ref (xB s0 + XA 16 0), .ref (xB s0 + XA 17 0), .ref (xB s0 + XA 18 0), .int 0, .ref (xB s0 + XA 19 0), .ref (xB s0 + XA 20 0), .ref (xB s0 + XA 21 0), .ref (xB s0 + XA 22 0), .ref (xB s0 + XA 23 0), .ref (xB s0 + XA 24 0), .ref (xB s0 + XA 25 0), .ref (xB s0 + XA 26 0), .null, .null, .null, .int 0, .null])))) hx hb hts hi_MO t_MO t_MO_ok n_MO hown hK (cn_inj _) h.1 h.2.2 15 0 (xA_in _ _ _) (by decide) rfl rfl 14 (by decide) (hts _ w_609) rfl rfl hin2 rfl (v := .ref (xB s0 + XA 26 0)) rfl rfl rfl (Nat.le_of_ble_eq_true rfl) rfl xo_o d_MO_init_92 (fun H locs hX1 hz1 hS1 => ?_)
  have h : XK D s0 122 (xo (XE dA (xB s0) xI0) 15 0 (.inr (3, [.int 0, .int 0, .int 0, .ref (xB s0 + XA 16 0), .ref (xB s0 + XA 17 0), .ref (xB s0 + XA 18 0), .int 0, .ref (xB s0 + XA 19 0), .ref (xB s0 + XA 20 0), .ref (xB s0 + XA 21 0), .ref (xB s0 + XA 22 0), .ref (xB s0 + XA 23 0), .ref (xB s0 + XA 24 0), .ref (xB s0 + XA 25 0), .ref (xB s0 + XA 26 0), .null, .null, .null, .int 0, .null]))) H locs := ⟨hX1, by rw [hz1]; exact h.2.1, hS1⟩
  refine lv_aload_n hx hb d_MO_init_95 rfl (lv_at hl 0 rfl) ?_
  refine lv_sipush (v := 480) hx hb d_MO_init_96 (by decide) ?_
  refine xk_newa hx hb (ty := .int) (x_ac hW0.alike (h0.2.1 _ m_73)) hK 0 rfl rfl (fun q => q) h 27 0 123 rfl (by decide) rfl (N := 480) (a0 := (480, .inl fun _ => 0)) (fun _ => rfl) (by decide) rfl (by decide) (Nat.le_of_ble_eq_true rfl) (Nat.le_of_ble_eq_true rfl) (E' := (xo (XE dA (xB s0) xI0) 15 0 (.inr (3, [.int 0, .int 0, .int 0, .ref (xB s0 + XA 16 0), .ref (xB s0 + XA 17 0), .ref (xB s0 + XA 18 0), .int 0, .ref (xB s0 + XA 19 0), .ref (xB s0 + XA 20 0), .ref (xB s0 + XA 21 0), .ref (xB s0 + XA 22 0), .ref (xB s0 + XA 23 0), .ref (xB s0 + XA 24 0), .ref (xB s0 + XA 25 0), .ref (xB s0 + XA 26 0), .null, .null, .null, .int 0, .null])))) rfl (fun _ _ _ => rfl) d_MO_init_99 (fun H h => ?_)
  refine xw_putF (C := R_MO) (T := F_MO) (N := 20) (ent' := (xo (XE dA (xB s0) xI0) 15 0 (.inr (3, [.int 0, .int 0, .int 0, .ref (xB s0 + XA 16 0), .ref (xB s0 + XA 17 0), .ref (xB s0 + XA 18 0), .int 0, .ref (xB s0 + XA 19 0), .ref (xB s0 + XA 20 0), .ref (xB s0 + XA 21 0), .ref (xB s0 + XA 22 0), .ref (xB s0 + XA 23 0), .ref (xB s0 + XA 24 0), .ref (xB s0 + XA 25 0), .ref (xB s0 + XA 26 0), .ref (xB s0 + XA 27 0), .null, .null, .int 0, .null])))) hx hb hts hi_MO t_MO t_MO_ok n_MO hown hK (cn_inj _) h.1 h.2.2 15 0 (xA_in _ _ _) (by decide) rfl rfl 15 (by decide) (hts _ w_610) rfl rfl hin2 rfl (v := .ref (xB s0 + XA 27 0)) rfl rfl rfl (Nat.le_of_ble_eq_true rfl) rfl xo_o d_MO_init_101 (fun H locs hX1 hz1 hS1 => ?_)
  have h : XK D s0 123 (xo (XE dA (xB s0) xI0) 15 0 (.inr (3, [.int 0, .int 0, .int 0, .ref (xB s0 + XA 16 0), .ref (xB s0 + XA 17 0), .ref (xB s0 + XA 18 0), .int 0, .ref (xB s0 + XA 19 0), .ref (xB s0 + XA 20 0), .ref (xB s0 + XA 21 0), .ref (xB s0 + XA 22 0), .ref (xB s0 + XA 23 0), .ref (xB s0 + XA 24 0), .ref (xB s0 + XA 25 0), .ref (xB s0 + XA 26 0), .ref (xB s0 + XA 27 0), .null, .null, .int 0, .null]))) H locs := ⟨hX1, by rw [hz1]; exact h.2.1, hS1⟩
  refine lv_aload_n hx hb d_MO_init_104 rfl (lv_at hl 0 rfl) ?_
  refine lv_sipush (v := 3840) hx hb d_MO_init_105 (by decide) ?_
  refine xk_newa hx hb (ty := .int) (x_ac hW0.alike (h0.2.1 _ m_73)) hK 0 rfl rfl (fun q => q) h 28 0 124 rfl (by decide) rfl (N := 3840) (a0 := (3840, .inl fun _ => 0)) (fun _ => rfl) (by decide) rfl (by decide) (Nat.le_of_ble_eq_true rfl) (Nat.le_of_ble_eq_true rfl) (E' := (xo (XE dA (xB s0) xI0) 15 0 (.inr (3, [.int 0, .int 0, .int 0, .ref (xB s0 + XA 16 0), .ref (xB s0 + XA 17 0), .ref (xB s0 + XA 18 0), .int 0, .ref (xB s0 + XA 19 0), .ref (xB s0 + XA 20 0), .ref (xB s0 + XA 21 0), .ref (xB s0 + XA 22 0), .ref (xB s0 + XA 23 0), .ref (xB s0 + XA 24 0), .ref (xB s0 + XA 25 0), .ref (xB s0 + XA 26 0), .ref (xB s0 + XA 27 0), .null, .null, .int 0, .null])))) rfl (fun _ _ _ => rfl) d_MO_init_108 (fun H h => ?_)
  refine xw_putF (C := R_MO) (T := F_MO) (N := 20) (ent' := (xo (XE dA (xB s0) xI0) 15 0 (.inr (3, [.int 0, .int 0, .int 0, .ref (xB s0 + XA 16 0), .ref (xB s0 + XA 17 0), .ref (xB s0 + XA 18 0), .int 0, .ref (xB s0 + XA 19 0), .ref (xB s0 + XA 20 0), .ref (xB s0 + XA 21 0), .ref (xB s0 + XA 22 0), .ref (xB s0 + XA 23 0), .ref (xB s0 + XA 24 0), .ref (xB s0 + XA 25 0), .ref (xB s0 + XA 26 0), .ref (xB s0 + XA 27 0), .ref (xB s0 + XA 28 0), .null, .int 0, .null])))) hx hb hts hi_MO t_MO t_MO_ok n_MO hown hK (cn_inj _) h.1 h.2.2 15 0 (xA_in _ _ _) (by decide) rfl rfl 16 (by decide) (hts _ w_611) rfl rfl hin2 rfl (v := .ref (xB s0 + XA 28 0)) rfl rfl rfl (Nat.le_of_ble_eq_true rfl) rfl xo_o d_MO_init_110 (fun H locs hX1 hz1 hS1 => ?_)
  have h : XK D s0 124 (xo (XE dA (xB s0) xI0) 15 0 (.inr (3, [.int 0, .int 0, .int 0, .ref (xB s0 + XA 16 0), .ref (xB s0 + XA 17 0), .ref (xB s0 + XA 18 0), .int 0, .ref (xB s0 + XA 19 0), .ref (xB s0 + XA 20 0), .ref (xB s0 + XA 21 0), .ref (xB s0 + XA 22 0), .ref (xB s0 + XA 23 0), .ref (xB s0 + XA 24 0), .ref (xB s0 + XA 25 0), .ref (xB s0 + XA 26 0), .ref (xB s0 + XA 27 0), .ref (xB s0 + XA 28 0), .null, .int 0, .null]))) H locs := ⟨hX1, by rw [hz1]; exact h.2.1, hS1⟩
  refine lv_aload_n hx hb d_MO_init_113 rfl (lv_at hl 0 rfl) ?_
  refine lv_sipush (v := 1440) hx hb d_MO_init_114 (by decide) ?_
  refine xk_newa hx hb (ty := .int) (x_ac hW0.alike (h0.2.1 _ m_73)) hK 0 rfl rfl (fun q => q) h 29 0 125 rfl (by decide) rfl (N := 1440) (a0 := (1440, .inl fun _ => 0)) (fun _ => rfl) (by decide) rfl (by decide) (Nat.le_of_ble_eq_true rfl) (Nat.le_of_ble_eq_true rfl) (E' := (xo (XE dA (xB s0) xI0) 15 0 (.inr (3, [.int 0, .int 0, .int 0, .ref (xB s0 + XA 16 0), .ref (xB s0 + XA 17 0), .ref (xB s0 + XA 18 0), .int 0, .ref (xB s0 + XA 19 0), .ref (xB s0 + XA 20 0), .ref (xB s0 + XA 21 0), .ref (xB s0 + XA 22 0), .ref (xB s0 + XA 23 0), .ref (xB s0 + XA 24 0), .ref (xB s0 + XA 25 0), .ref (xB s0 + XA 26 0), .ref (xB s0 + XA 27 0), .ref (xB s0 + XA 28 0), .null, .int 0, .null])))) rfl (fun _ _ _ => rfl) d_MO_init_117 (fun H h => ?_)
  refine xw_putF (C := R_MO) (T := F_MO) (N := 20) (ent' := (xo (XE dA (xB s0) xI0) 15 0 (.inr (3, [.int 0, .int 0, .int 0, .ref (xB s0 + XA 16 0), .ref (xB s0 + XA 17 0), .ref (xB s0 + XA 18 0), .int 0, .ref (xB s0 + XA 19 0), .ref (xB s0 + XA 20 0), .ref (xB s0 + XA 21 0), .ref (xB s0 + XA 22 0), .ref (xB s0 + XA 23 0), .ref (xB s0 + XA 24 0), .ref (xB s0 + XA 25 0), .ref (xB s0 + XA 26 0), .ref (xB s0 + XA 27 0), .ref (xB s0 + XA 28 0), .ref (xB s0 + XA 29 0), .int 0, .null])))) hx hb hts hi_MO t_MO t_MO_ok n_MO hown hK (cn_inj _) h.1 h.2.2 15 0 (xA_in _ _ _) (by decide) rfl rfl 17 (by decide) (hts _ w_612) rfl rfl hin2 rfl (v := .ref (xB s0 + XA 29 0)) rfl rfl rfl (Nat.le_of_ble_eq_true rfl) rfl xo_o d_MO_init_119 (fun H locs hX1 hz1 hS1 => ?_)
  have h : XK D s0 125 (xo (XE dA (xB s0) xI0) 15 0 (.inr (3, [.int 0, .int 0, .int 0, .ref (xB s0 + XA 16 0), .ref (xB s0 + XA 17 0), .ref (xB s0 + XA 18 0), .int 0, .ref (xB s0 + XA 19 0), .ref (xB s0 + XA 20 0), .ref (xB s0 + XA 21 0), .ref (xB s0 + XA 22 0), .ref (xB s0 + XA 23 0), .ref (xB s0 + XA 24 0), .ref (xB s0 + XA 25 0), .ref (xB s0 + XA 26 0), .ref (xB s0 + XA 27 0), .ref (xB s0 + XA 28 0), .ref (xB s0 + XA 29 0), .int 0, .null]))) H locs := ⟨hX1, by rw [hz1]; exact h.2.1, hS1⟩
  refine lv_aload_n hx hb d_MO_init_122 rfl (lv_at hl 0 rfl) ?_
  refine lv_sipush (v := 300) hx hb d_MO_init_123 (by decide) ?_
  refine xk_newa hx hb (ty := .int) (x_ac hW0.alike (h0.2.1 _ m_73)) hK 0 rfl rfl (fun q => q) h 30 0 126 rfl (by decide) rfl (N := 300) (a0 := (300, .inl fun _ => 0)) (fun _ => rfl) (by decide) rfl (by decide) (Nat.le_of_ble_eq_true rfl) (Nat.le_of_ble_eq_true rfl) (E' := (xo (XE dA (xB s0) xI0) 15 0 (.inr (3, [.int 0, .int 0, .int 0, .ref (xB s0 + XA 16 0), .ref (xB s0 + XA 17 0), .ref (xB s0 + XA 18 0), .int 0, .ref (xB s0 + XA 19 0), .ref (xB s0 + XA 20 0), .ref (xB s0 + XA 21 0), .ref (xB s0 + XA 22 0), .ref (xB s0 + XA 23 0), .ref (xB s0 + XA 24 0), .ref (xB s0 + XA 25 0), .ref (xB s0 + XA 26 0), .ref (xB s0 + XA 27 0), .ref (xB s0 + XA 28 0), .ref (xB s0 + XA 29 0), .int 0, .null])))) rfl (fun _ _ _ => rfl) d_MO_init_126 (fun H h => ?_)
  refine xw_putF (C := R_MO) (T := F_MO) (N := 20) (ent' := (xo (XE dA (xB s0) xI0) 15 0 (.inr (3, [.int 0, .int 0, .int 0, .ref (xB s0 + XA 16 0), .ref (xB s0 + XA 17 0), .ref (xB s0 + XA 18 0), .int 0, .ref (xB s0 + XA 19 0), .ref (xB s0 + XA 20 0), .ref (xB s0 + XA 21 0), .ref (xB s0 + XA 22 0), .ref (xB s0 + XA 23 0), .ref (xB s0 + XA 24 0), .ref (xB s0 + XA 25 0), .ref (xB s0 + XA 26 0), .ref (xB s0 + XA 27 0), .ref (xB s0 + XA 28 0), .ref (xB s0 + XA 29 0), .int 0, .ref (xB s0 + XA 30 0)])))) hx hb hts hi_MO t_MO t_MO_ok n_MO hown hK (cn_inj _) h.1 h.2.2 15 0 (xA_in _ _ _) (by decide) rfl rfl 19 (by decide) (hts _ w_614) rfl rfl hin2 rfl (v := .ref (xB s0 + XA 30 0)) rfl rfl rfl (Nat.le_of_ble_eq_true rfl) rfl xo_o d_MO_init_128 (fun H locs hX1 hz1 hS1 => ?_)
  have h : XK D s0 126 (xo (XE dA (xB s0) xI0) 15 0 (.inr (3, [.int 0, .int 0, .int 0, .ref (xB s0 + XA 16 0), .ref (xB s0 + XA 17 0), .ref (xB s0 + XA 18 0), .int 0, .ref (xB s0 + XA 19 0), .ref (xB s0 + XA 20 0), .ref (xB s0 + XA 21 0), .ref (xB s0 + XA 22 0), .ref (xB s0 + XA 23 0), .ref (xB s0 + XA 24 0), .ref (xB s0 + XA 25 0), .ref (xB s0 + XA 26 0), .ref (xB s0 + XA 27 0), .ref (xB s0 + XA 28 0), .ref (xB s0 + XA 29 0), .int 0, .ref (xB s0 + XA 30 0)]))) H locs := ⟨hX1, by rw [hz1]; exact h.2.1, hS1⟩
  rw [xo_full (e := .inr (3, [.int 0, .int 0, .int 0, .ref (xB s0 + XA 16 0), .ref (xB s0 + XA 17 0), .ref (xB s0 + XA 18 0), .int 0, .ref (xB s0 + XA 19 0), .ref (xB s0 + XA 20 0), .ref (xB s0 + XA 21 0), .ref (xB s0 + XA 22 0), .ref (xB s0 + XA 23 0), .ref (xB s0 + XA 24 0), .ref (xB s0 + XA 25 0), .ref (xB s0 + XA 26 0), .ref (xB s0 + XA 27 0), .ref (xB s0 + XA 28 0), .ref (xB s0 + XA 29 0), .int 0, .ref (xB s0 + XA 30 0)])) rfl] at h
  exact xk_v hx hb hr hlocks h d_MO_init_131
