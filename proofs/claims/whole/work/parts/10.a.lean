abbrev rm_LC_cellOf : Room := { frames := 0, cells := 0, slots := 0, locals := 0 }
def S_LC_cellOf (σ : XS) (a : Int32) (b : Int32) : Int32 := ((a * (30 : Int32)) + b)
set_option maxHeartbeats 4000000 in
set_option maxRecDepth 100000 in
theorem c_LC_cellOf {l : Launch} {s0 : State} {A0 : Array Value} {D : va_G} {dA : Nat → ClassId} (h0 : XS0 l s0 A0 D dA) (σ : XS) (a : Int32) (b : Int32)  : XMet l y_LC_cellOf [cw_LC_cellOf] rm_LC_cellOf (XP D dA s0 σ [.int a, .int b]) (XQp xv_i (.inl (S_LC_cellOf σ a b))) 0 0 (fun _ => False) := by
  refine XMet.ofW (cc := b_LC_cellOf) (maxL := 2) (ret := (some .int)) (by decide) rfl ?_
  intro p e s m args below meth c s₁ Bd hml hvA
  obtain ⟨rfl, hX, hO⟩ := hvA
  have hx := Bd.exec
  have hb := Bd.bytes
  have hr := Bd.returns
  have hown : s.vm.findClass "LoadChecks" = some m.cls := findClass_of_methodNamed Bd.named
  have hlocks := Bd.notSynchronized
  have hnt : c.exceptionTable.isEmpty = true := Bd.noHandlers (atoms_spec (ws := [cw_LC_cellOf]) Bd.pre _ List.mem_cons_self)
  have hW0 := hO.1
  have hts := xs_w (args := ([.int a, .int b] : List Value).toArray) h0 hW0
  have hK := xs_K h0 hW0
  have hl := lv_entry ([.int a, .int b]) (n := 2) (Nat.le_of_ble_eq_true rfl)
  rw [lg_entry_eq]
  generalize (lg_sl ([.int a, .int b]) ++ List.replicate (2 - (lg_sl ([.int a, .int b])).length) Slot.unset).toArray = ls at hl ⊢
  have hl : lv_has ls 2 [(0, .int a), (1, .int b)] := hl
  generalize hR : S_LC_cellOf σ a b = res
  unfold S_LC_cellOf at hR
  refine lv_iload_n hx hb d_LC_cellOf_0 rfl (lv_at hl 0 rfl) ?_
  refine lv_bipush (v := 30) hx hb d_LC_cellOf_1 (by decide) ?_
  refine lv_imul hx hb d_LC_cellOf_3 ?_
  refine lv_iload_n hx hb d_LC_cellOf_4 rfl (lv_at hl 1 rfl) ?_
  refine lv_iadd hx hb d_LC_cellOf_5 ?_
  subst hR
  refine W.widen (k := 0) (n := 0) (by decide) (by decide) ?_; exact xr_i hx hb hr hlocks d_LC_cellOf_6

abbrev rm_LC_requireKind : Room := { frames := 6, cells := 1, slots := 6, locals := 82 }
def S_LC_requireKind (σ : XS) (x : Int32) : Unit ⊕ String := (if x < 0 then .inr "java/lang/IllegalArgumentException" else (if x < (6 : Int32) then .inl () else .inr "java/lang/IllegalArgumentException"))
set_option maxHeartbeats 4000000 in
set_option maxRecDepth 100000 in
theorem c_LC_requireKind {l : Launch} {s0 : State} {A0 : Array Value} {D : va_G} {dA : Nat → ClassId} (h0 : XS0 l s0 A0 D dA) (σ : XS) (x : Int32)  : XMet l y_LC_requireKind [cw_LC_requireKind] rm_LC_requireKind (XP D dA s0 σ [.int x]) (XQp xv_v (S_LC_requireKind σ x)) 1 6 (fun _ => False) := by
  refine XMet.ofW (cc := b_LC_requireKind) (maxL := 1) (ret := none) (by decide) rfl ?_
  intro p e s m args below meth c s₁ Bd hml hvA
  obtain ⟨rfl, hX, hO⟩ := hvA
  have hx := Bd.exec
  have hb := Bd.bytes
  have hr := Bd.returns
  have hown : s.vm.findClass "LoadChecks" = some m.cls := findClass_of_methodNamed Bd.named
  have hlocks := Bd.notSynchronized
  have hnt : c.exceptionTable.isEmpty = true := Bd.noHandlers (atoms_spec (ws := [cw_LC_requireKind]) Bd.pre _ List.mem_cons_self)
  have hW0 := hO.1
  have hts := xs_w (args := ([.int x] : List Value).toArray) h0 hW0
  have hK := xs_K h0 hW0
  have hl := lv_entry ([.int x]) (n := 1) (Nat.le_of_ble_eq_true rfl)
  rw [lg_entry_eq]
  generalize (lg_sl ([.int x]) ++ List.replicate (1 - (lg_sl ([.int x])).length) Slot.unset).toArray = ls at hl ⊢
  have hl : lv_has ls 1 [(0, .int x)] := hl
  generalize hR : S_LC_requireKind σ x = res
  unfold S_LC_requireKind at hR
  refine lv_iload_n hx hb d_LC_requireKind_0 rfl (lv_at hl 0 rfl) ?_
  refine lv_if_lt (tgt := 10) hx hb d_LC_requireKind_1 (by decide) (fun c1 => ?_) (fun c1 => ?_)
  · rw [if_pos c1] at hR
    obtain ⟨qs, hqs⟩ := xs_str h0 hW0 (own := "LoadChecks") (k := 219) (tx := "no such kind") (by decide +kernel); subst hR; refine W.widen (k := 0) (n := 0) (by decide) (by decide) ?_; exact x_throw hx hb h0.1 hown hlocks hnt (hl.1.trans hml.symm) (hts _ w_174) (hts _ w_42) hqs (x_own hO rfl (oa_IAE h0)) (by decide +kernel) (by decide +kernel) d_LC_requireKind_10 d_LC_requireKind_13 d_LC_requireKind_14 d_LC_requireKind_16 d_LC_requireKind_19 (Nat.le_of_ble_eq_true rfl) (Nat.le_of_ble_eq_true rfl) (Nat.le_of_ble_eq_true rfl) (Nat.le_of_ble_eq_true rfl) (fun x t h1 h2 => Or.inr ⟨_, x, rfl, rfl, h1, h2⟩)
  · rw [if_neg c1] at hR
    refine lv_iload_n hx hb d_LC_requireKind_4 rfl (lv_at hl 0 rfl) ?_
    refine lv_bipush (v := 6) hx hb d_LC_requireKind_5 (by decide) ?_
    refine lv_icmp_lt (tgt := 20) hx hb d_LC_requireKind_7 (by decide) (fun c7 => ?_) (fun c7 => ?_)
    · rw [if_pos c7] at hR
      subst hR
      refine W.widen (k := 1) (n := 6) (by decide) (by decide) ?_; exact xr_v hx hb hr hlocks d_LC_requireKind_20
    · rw [if_neg c7] at hR
      obtain ⟨qs, hqs⟩ := xs_str h0 hW0 (own := "LoadChecks") (k := 219) (tx := "no such kind") (by decide +kernel); subst hR; refine W.widen (k := 0) (n := 0) (by decide) (by decide) ?_; exact x_throw hx hb h0.1 hown hlocks hnt (hl.1.trans hml.symm) (hts _ w_174) (hts _ w_42) hqs (x_own hO rfl (oa_IAE h0)) (by decide +kernel) (by decide +kernel) d_LC_requireKind_10 d_LC_requireKind_13 d_LC_requireKind_14 d_LC_requireKind_16 d_LC_requireKind_19 (Nat.le_of_ble_eq_true rfl) (Nat.le_of_ble_eq_true rfl) (Nat.le_of_ble_eq_true rfl) (Nat.le_of_ble_eq_true rfl) (fun x t h1 h2 => Or.inr ⟨_, x, rfl, rfl, h1, h2⟩)

abbrev rm_LC_requireCupboard : Room := { frames := 6, cells := 1, slots := 6, locals := 82 }
def S_LC_requireCupboard (σ : XS) (x : Int32) : Unit ⊕ String := (if x < 0 then .inr "java/lang/IllegalArgumentException" else (if x < (8 : Int32) then .inl () else .inr "java/lang/IllegalArgumentException"))
set_option maxHeartbeats 4000000 in
set_option maxRecDepth 100000 in
theorem c_LC_requireCupboard {l : Launch} {s0 : State} {A0 : Array Value} {D : va_G} {dA : Nat → ClassId} (h0 : XS0 l s0 A0 D dA) (σ : XS) (x : Int32)  : XMet l y_LC_requireCupboard [cw_LC_requireCupboard] rm_LC_requireCupboard (XP D dA s0 σ [.int x]) (XQp xv_v (S_LC_requireCupboard σ x)) 1 6 (fun _ => False) := by
  refine XMet.ofW (cc := b_LC_requireCupboard) (maxL := 1) (ret := none) (by decide) rfl ?_
  intro p e s m args below meth c s₁ Bd hml hvA
  obtain ⟨rfl, hX, hO⟩ := hvA
  have hx := Bd.exec
  have hb := Bd.bytes
  have hr := Bd.returns
  have hown : s.vm.findClass "LoadChecks" = some m.cls := findClass_of_methodNamed Bd.named
  have hlocks := Bd.notSynchronized
  have hnt : c.exceptionTable.isEmpty = true := Bd.noHandlers (atoms_spec (ws := [cw_LC_requireCupboard]) Bd.pre _ List.mem_cons_self)
  have hW0 := hO.1
  have hts := xs_w (args := ([.int x] : List Value).toArray) h0 hW0
  have hK := xs_K h0 hW0
  have hl := lv_entry ([.int x]) (n := 1) (Nat.le_of_ble_eq_true rfl)
  rw [lg_entry_eq]
  generalize (lg_sl ([.int x]) ++ List.replicate (1 - (lg_sl ([.int x])).length) Slot.unset).toArray = ls at hl ⊢
  have hl : lv_has ls 1 [(0, .int x)] := hl
  generalize hR : S_LC_requireCupboard σ x = res
  unfold S_LC_requireCupboard at hR
  refine lv_iload_n hx hb d_LC_requireCupboard_0 rfl (lv_at hl 0 rfl) ?_
  refine lv_if_lt (tgt := 10) hx hb d_LC_requireCupboard_1 (by decide) (fun c1 => ?_) (fun c1 => ?_)
  · rw [if_pos c1] at hR
    obtain ⟨qs, hqs⟩ := xs_str h0 hW0 (own := "LoadChecks") (k := 221) (tx := "no such cupboard") (by decide +kernel); subst hR; refine W.widen (k := 0) (n := 0) (by decide) (by decide) ?_; exact x_throw hx hb h0.1 hown hlocks hnt (hl.1.trans hml.symm) (hts _ w_174) (hts _ w_42) hqs (x_own hO rfl (oa_IAE h0)) (by decide +kernel) (by decide +kernel) d_LC_requireCupboard_10 d_LC_requireCupboard_13 d_LC_requireCupboard_14 d_LC_requireCupboard_16 d_LC_requireCupboard_19 (Nat.le_of_ble_eq_true rfl) (Nat.le_of_ble_eq_true rfl) (Nat.le_of_ble_eq_true rfl) (Nat.le_of_ble_eq_true rfl) (fun x t h1 h2 => Or.inr ⟨_, x, rfl, rfl, h1, h2⟩)
  · rw [if_neg c1] at hR
    refine lv_iload_n hx hb d_LC_requireCupboard_4 rfl (lv_at hl 0 rfl) ?_
    refine lv_bipush (v := 8) hx hb d_LC_requireCupboard_5 (by decide) ?_
    refine lv_icmp_lt (tgt := 20) hx hb d_LC_requireCupboard_7 (by decide) (fun c7 => ?_) (fun c7 => ?_)
    · rw [if_pos c7] at hR
      subst hR
      refine W.widen (k := 1) (n := 6) (by decide) (by decide) ?_; exact xr_v hx hb hr hlocks d_LC_requireCupboard_20
    · rw [if_neg c7] at hR
      obtain ⟨qs, hqs⟩ := xs_str h0 hW0 (own := "LoadChecks") (k := 221) (tx := "no such cupboard") (by decide +kernel); subst hR; refine W.widen (k := 0) (n := 0) (by decide) (by decide) ?_; exact x_throw hx hb h0.1 hown hlocks hnt (hl.1.trans hml.symm) (hts _ w_174) (hts _ w_42) hqs (x_own hO rfl (oa_IAE h0)) (by decide +kernel) (by decide +kernel) d_LC_requireCupboard_10 d_LC_requireCupboard_13 d_LC_requireCupboard_14 d_LC_requireCupboard_16 d_LC_requireCupboard_19 (Nat.le_of_ble_eq_true rfl) (Nat.le_of_ble_eq_true rfl) (Nat.le_of_ble_eq_true rfl) (Nat.le_of_ble_eq_true rfl) (fun x t h1 h2 => Or.inr ⟨_, x, rfl, rfl, h1, h2⟩)

abbrev rm_LC_requireItem : Room := { frames := 6, cells := 1, slots := 6, locals := 82 }
def S_LC_requireItem (σ : XS) (x : Int32) : Unit ⊕ String := (if x < 0 then .inr "java/lang/IllegalArgumentException" else (if x < (30 : Int32) then .inl () else .inr "java/lang/IllegalArgumentException"))
set_option maxHeartbeats 4000000 in
set_option maxRecDepth 100000 in
theorem c_LC_requireItem {l : Launch} {s0 : State} {A0 : Array Value} {D : va_G} {dA : Nat → ClassId} (h0 : XS0 l s0 A0 D dA) (σ : XS) (x : Int32)  : XMet l y_LC_requireItem [cw_LC_requireItem] rm_LC_requireItem (XP D dA s0 σ [.int x]) (XQp xv_v (S_LC_requireItem σ x)) 1 6 (fun _ => False) := by
  refine XMet.ofW (cc := b_LC_requireItem) (maxL := 1) (ret := none) (by decide) rfl ?_
  intro p e s m args below meth c s₁ Bd hml hvA
  obtain ⟨rfl, hX, hO⟩ := hvA
  have hx := Bd.exec
  have hb := Bd.bytes
  have hr := Bd.returns
  have hown : s.vm.findClass "LoadChecks" = some m.cls := findClass_of_methodNamed Bd.named
  have hlocks := Bd.notSynchronized
  have hnt : c.exceptionTable.isEmpty = true := Bd.noHandlers (atoms_spec (ws := [cw_LC_requireItem]) Bd.pre _ List.mem_cons_self)
  have hW0 := hO.1
  have hts := xs_w (args := ([.int x] : List Value).toArray) h0 hW0
  have hK := xs_K h0 hW0
  have hl := lv_entry ([.int x]) (n := 1) (Nat.le_of_ble_eq_true rfl)
  rw [lg_entry_eq]
  generalize (lg_sl ([.int x]) ++ List.replicate (1 - (lg_sl ([.int x])).length) Slot.unset).toArray = ls at hl ⊢
  have hl : lv_has ls 1 [(0, .int x)] := hl
  generalize hR : S_LC_requireItem σ x = res
  unfold S_LC_requireItem at hR
  refine lv_iload_n hx hb d_LC_requireItem_0 rfl (lv_at hl 0 rfl) ?_
  refine lv_if_lt (tgt := 10) hx hb d_LC_requireItem_1 (by decide) (fun c1 => ?_) (fun c1 => ?_)
  · rw [if_pos c1] at hR
    obtain ⟨qs, hqs⟩ := xs_str h0 hW0 (own := "LoadChecks") (k := 223) (tx := "no such item") (by decide +kernel); subst hR; refine W.widen (k := 0) (n := 0) (by decide) (by decide) ?_; exact x_throw hx hb h0.1 hown hlocks hnt (hl.1.trans hml.symm) (hts _ w_174) (hts _ w_42) hqs (x_own hO rfl (oa_IAE h0)) (by decide +kernel) (by decide +kernel) d_LC_requireItem_10 d_LC_requireItem_13 d_LC_requireItem_14 d_LC_requireItem_16 d_LC_requireItem_19 (Nat.le_of_ble_eq_true rfl) (Nat.le_of_ble_eq_true rfl) (Nat.le_of_ble_eq_true rfl) (Nat.le_of_ble_eq_true rfl) (fun x t h1 h2 => Or.inr ⟨_, x, rfl, rfl, h1, h2⟩)
  · rw [if_neg c1] at hR
    refine lv_iload_n hx hb d_LC_requireItem_4 rfl (lv_at hl 0 rfl) ?_
    refine lv_bipush (v := 30) hx hb d_LC_requireItem_5 (by decide) ?_
    refine lv_icmp_lt (tgt := 20) hx hb d_LC_requireItem_7 (by decide) (fun c7 => ?_) (fun c7 => ?_)
    · rw [if_pos c7] at hR
      subst hR
      refine W.widen (k := 1) (n := 6) (by decide) (by decide) ?_; exact xr_v hx hb hr hlocks d_LC_requireItem_20
    · rw [if_neg c7] at hR
      obtain ⟨qs, hqs⟩ := xs_str h0 hW0 (own := "LoadChecks") (k := 223) (tx := "no such item") (by decide +kernel); subst hR; refine W.widen (k := 0) (n := 0) (by decide) (by decide) ?_; exact x_throw hx hb h0.1 hown hlocks hnt (hl.1.trans hml.symm) (hts _ w_174) (hts _ w_42) hqs (x_own hO rfl (oa_IAE h0)) (by decide +kernel) (by decide +kernel) d_LC_requireItem_10 d_LC_requireItem_13 d_LC_requireItem_14 d_LC_requireItem_16 d_LC_requireItem_19 (Nat.le_of_ble_eq_true rfl) (Nat.le_of_ble_eq_true rfl) (Nat.le_of_ble_eq_true rfl) (Nat.le_of_ble_eq_true rfl) (fun x t h1 h2 => Or.inr ⟨_, x, rfl, rfl, h1, h2⟩)

abbrev rm_LC_requireRange : Room := { frames := 6, cells := 1, slots := 6, locals := 82 }
def S_LC_requireRange (σ : XS) (x : Int32) (lo : Int32) (hi : Int32) : Unit ⊕ String := (if x < lo then .inr "java/lang/IndexOutOfBoundsException" else (if x ≤ hi then .inl () else .inr "java/lang/IndexOutOfBoundsException"))
set_option maxHeartbeats 4000000 in
set_option maxRecDepth 100000 in
theorem c_LC_requireRange {l : Launch} {s0 : State} {A0 : Array Value} {D : va_G} {dA : Nat → ClassId} (h0 : XS0 l s0 A0 D dA) (σ : XS) (x : Int32) (lo : Int32) (hi : Int32)  : XMet l y_LC_requireRange [cw_LC_requireRange] rm_LC_requireRange (XP D dA s0 σ [.int x, .int lo, .int hi]) (XQp xv_v (S_LC_requireRange σ x lo hi)) 1 6 (fun _ => False) := by
  refine XMet.ofW (cc := b_LC_requireRange) (maxL := 3) (ret := none) (by decide) rfl ?_
  intro p e s m args below meth c s₁ Bd hml hvA
  obtain ⟨rfl, hX, hO⟩ := hvA
  have hx := Bd.exec
  have hb := Bd.bytes
  have hr := Bd.returns
  have hown : s.vm.findClass "LoadChecks" = some m.cls := findClass_of_methodNamed Bd.named
  have hlocks := Bd.notSynchronized
  have hnt : c.exceptionTable.isEmpty = true := Bd.noHandlers (atoms_spec (ws := [cw_LC_requireRange]) Bd.pre _ List.mem_cons_self)
  have hW0 := hO.1
  have hts := xs_w (args := ([.int x, .int lo, .int hi] : List Value).toArray) h0 hW0
  have hK := xs_K h0 hW0
  have hl := lv_entry ([.int x, .int lo, .int hi]) (n := 3) (Nat.le_of_ble_eq_true rfl)
  rw [lg_entry_eq]
  generalize (lg_sl ([.int x, .int lo, .int hi]) ++ List.replicate (3 - (lg_sl ([.int x, .int lo, .int hi])).length) Slot.unset).toArray = ls at hl ⊢
  have hl : lv_has ls 3 [(0, .int x), (1, .int lo), (2, .int hi)] := hl
  generalize hR : S_LC_requireRange σ x lo hi = res
  unfold S_LC_requireRange at hR
  refine lv_iload_n hx hb d_LC_requireRange_0 rfl (lv_at hl 0 rfl) ?_
  refine lv_iload_n hx hb d_LC_requireRange_1 rfl (lv_at hl 1 rfl) ?_
  refine lv_icmp_lt (tgt := 10) hx hb d_LC_requireRange_2 (by decide) (fun c2 => ?_) (fun c2 => ?_)
  · rw [if_pos c2] at hR
    obtain ⟨qs, hqs⟩ := xs_str h0 hW0 (own := "LoadChecks") (k := 225) (tx := "outside its range") (by decide +kernel); subst hR; refine W.widen (k := 0) (n := 0) (by decide) (by decide) ?_; exact x_throw hx hb h0.1 hown hlocks hnt (hl.1.trans hml.symm) (hts _ w_247) (hts _ w_43) hqs (x_own hO rfl (oa_IOB h0)) (by decide +kernel) (by decide +kernel) d_LC_requireRange_10 d_LC_requireRange_13 d_LC_requireRange_14 d_LC_requireRange_16 d_LC_requireRange_19 (Nat.le_of_ble_eq_true rfl) (Nat.le_of_ble_eq_true rfl) (Nat.le_of_ble_eq_true rfl) (Nat.le_of_ble_eq_true rfl) (fun x t h1 h2 => Or.inr ⟨_, x, rfl, rfl, h1, h2⟩)
  · rw [if_neg c2] at hR
    refine lv_iload_n hx hb d_LC_requireRange_5 rfl (lv_at hl 0 rfl) ?_
    refine lv_iload_n hx hb d_LC_requireRange_6 rfl (lv_at hl 2 rfl) ?_
    refine lv_icmp_le (tgt := 20) hx hb d_LC_requireRange_7 (by decide) (fun c7 => ?_) (fun c7 => ?_)
    · rw [if_pos c7] at hR
      subst hR
      refine W.widen (k := 1) (n := 6) (by decide) (by decide) ?_; exact xr_v hx hb hr hlocks d_LC_requireRange_20
    · rw [if_neg c7] at hR
      obtain ⟨qs, hqs⟩ := xs_str h0 hW0 (own := "LoadChecks") (k := 225) (tx := "outside its range") (by decide +kernel); subst hR; refine W.widen (k := 0) (n := 0) (by decide) (by decide) ?_; exact x_throw hx hb h0.1 hown hlocks hnt (hl.1.trans hml.symm) (hts _ w_247) (hts _ w_43) hqs (x_own hO rfl (oa_IOB h0)) (by decide +kernel) (by decide +kernel) d_LC_requireRange_10 d_LC_requireRange_13 d_LC_requireRange_14 d_LC_requireRange_16 d_LC_requireRange_19 (Nat.le_of_ble_eq_true rfl) (Nat.le_of_ble_eq_true rfl) (Nat.le_of_ble_eq_true rfl) (Nat.le_of_ble_eq_true rfl) (fun x t h1 h2 => Or.inr ⟨_, x, rfl, rfl, h1, h2⟩)

abbrev rm_LC_requireLimits : Room := { frames := 7, cells := 2, slots := 12, locals := 104 }
def S_LC_requireLimits (σ : XS) (a : Int32) (b : Int32) : Unit ⊕ String := (xbp (S_LC_requireRange σ a (0 : Int32) (20000000 : Int32)) fun _ => (xbp (S_LC_requireRange σ b (0 : Int32) (20000000 : Int32)) fun _ => .inl ()))
set_option maxHeartbeats 4000000 in
set_option maxRecDepth 100000 in
theorem c_LC_requireLimits {l : Launch} {s0 : State} {A0 : Array Value} {D : va_G} {dA : Nat → ClassId} (h0 : XS0 l s0 A0 D dA) (σ : XS) (a : Int32) (b : Int32)  : XMet l y_LC_requireLimits [cw_LC_requireLimits] rm_LC_requireLimits (XP D dA s0 σ [.int a, .int b]) (XQp xv_v (S_LC_requireLimits σ a b)) 2 12 (fun _ => False) := by
  refine XMet.ofW (cc := b_LC_requireLimits) (maxL := 2) (ret := none) (by decide) rfl ?_
  intro p e s m args below meth c s₁ Bd hml hvA
  obtain ⟨rfl, hX, hO⟩ := hvA
  have hx := Bd.exec
  have hb := Bd.bytes
  have hr := Bd.returns
  have hown : s.vm.findClass "LoadChecks" = some m.cls := findClass_of_methodNamed Bd.named
  have hlocks := Bd.notSynchronized
  have hnt : c.exceptionTable.isEmpty = true := Bd.noHandlers (atoms_spec (ws := [cw_LC_requireLimits]) Bd.pre _ List.mem_cons_self)
  have hW0 := hO.1
  have hts := xs_w (args := ([.int a, .int b] : List Value).toArray) h0 hW0
  have hK := xs_K h0 hW0
  have hl := lv_entry ([.int a, .int b]) (n := 2) (Nat.le_of_ble_eq_true rfl)
  rw [lg_entry_eq]
  generalize (lg_sl ([.int a, .int b]) ++ List.replicate (2 - (lg_sl ([.int a, .int b])).length) Slot.unset).toArray = ls at hl ⊢
  have hl : lv_has ls 2 [(0, .int a), (1, .int b)] := hl
  generalize hR : S_LC_requireLimits σ a b = res
  unfold S_LC_requireLimits at hR
  refine lv_iload_n hx hb d_LC_requireLimits_0 rfl (lv_at hl 0 rfl) ?_
  refine lv_iconst (v := 0) hx hb d_LC_requireLimits_1 (by decide) ?_
  refine lv_ldc (v := 20000000) hx hb hown (hts _ w_266) d_LC_requireLimits_2 ?_
  refine xc_p (rest := []) (x_invS (argsL := [.int a, .int (0 : Int32), .int (20000000 : Int32)]) hx hb hown (hts _ w_244) (hts _ w_245) (hts _ w_34) (x_code (hts _ w_246)) ⟨by decide, by decide⟩ rfl rfl rfl d_LC_requireLimits_4) (c_LC_requireRange h0 σ a (0 : Int32) (20000000 : Int32)) (xs_cw h0 hW0 m_246) (hts _ w_34) ⟨rfl, rfl, Nat.le_of_ble_eq_true rfl, Nat.le_of_ble_eq_true rfl⟩ (hl.1.trans hml.symm) (by rw [hb]; exact d_LC_requireLimits_4) (Nat.le_of_ble_eq_true rfl) ⟨Nat.le_of_ble_eq_true rfl, Nat.le_of_ble_eq_true rfl⟩ hX hO (fun v4 hM4 => ?_) (fun E4 x4 H4 hM4 hE4 he4 => ?_)
  · rw [hM4] at hR
    dsimp only [xbp] at hR
    refine lv_iload_n hx hb d_LC_requireLimits_7 rfl (lv_at hl 1 rfl) ?_
    refine lv_iconst (v := 0) hx hb d_LC_requireLimits_8 (by decide) ?_
    refine lv_ldc (v := 20000000) hx hb hown (hts _ w_266) d_LC_requireLimits_9 ?_
    refine xc_p (rest := []) (x_invS (argsL := [.int b, .int (0 : Int32), .int (20000000 : Int32)]) hx hb hown (hts _ w_244) (hts _ w_245) (hts _ w_34) (x_code (hts _ w_246)) ⟨by decide, by decide⟩ rfl rfl rfl d_LC_requireLimits_11) (c_LC_requireRange h0 σ b (0 : Int32) (20000000 : Int32)) (xs_cw h0 hW0 m_246) (hts _ w_34) ⟨rfl, rfl, Nat.le_of_ble_eq_true rfl, Nat.le_of_ble_eq_true rfl⟩ (hl.1.trans hml.symm) (by rw [hb]; exact d_LC_requireLimits_11) (Nat.le_of_ble_eq_true rfl) ⟨Nat.le_of_ble_eq_true rfl, Nat.le_of_ble_eq_true rfl⟩ hX hO (fun v11 hM11 => ?_) (fun E11 x11 H11 hM11 hE11 he11 => ?_)
    · rw [hM11] at hR
      dsimp only [xbp] at hR
      subst hR
      refine W.widen (k := 2) (n := 12) (by decide) (by decide) ?_; exact xr_v hx hb hr hlocks d_LC_requireLimits_14
    · rw [hM11] at hR
      dsimp only [xbp] at hR
      subst hR
      refine xt_wid (k := 2) (n := 12) (by decide) (by decide) ?_
      exact xt_p hlocks hnt hE11 he11
  · rw [hM4] at hR
    dsimp only [xbp] at hR
    subst hR
    refine xt_wid (k := 2) (n := 12) (by decide) (by decide) ?_
    exact xt_p hlocks hnt hE4 he4

abbrev rm_LC_knownVehicle : Room := { frames := 6, cells := 1, slots := 6, locals := 82 }
def S_LC_knownVehicle (σ : XS) (v : Int32) : Nat ⊕ String := (if v < 0 then .inr "java/lang/IllegalArgumentException" else (if v < (σ.1 0 0 6) then .inl v.toNatClampNeg else .inr "java/lang/IllegalArgumentException"))
set_option maxHeartbeats 4000000 in
set_option maxRecDepth 100000 in
theorem c_LC_knownVehicle {l : Launch} {s0 : State} {A0 : Array Value} {D : va_G} {dA : Nat → ClassId} (h0 : XS0 l s0 A0 D dA) (σ : XS) (v : Int32) (hok : XOk σ) : XMet l y_LC_knownVehicle [cw_LC_knownVehicle] rm_LC_knownVehicle (XP D dA s0 σ [.ref (xB s0 + XA 0 0), .int v]) (XQp (xv_r s0 9) (S_LC_knownVehicle σ v)) 1 6 (fun _ => False) := by
  refine XMet.ofW (cc := b_LC_knownVehicle) (maxL := 2) (ret := (some (.object "LoadChecks$Vehicle"))) (by decide) rfl ?_
  intro p e s m args below meth c s₁ Bd hml hvA
  obtain ⟨rfl, hX, hO⟩ := hvA
  have hx := Bd.exec
  have hb := Bd.bytes
  have hr := Bd.returns
  have hown : s.vm.findClass "LoadChecks" = some m.cls := findClass_of_methodNamed Bd.named
  have hlocks := Bd.notSynchronized
  have hnt : c.exceptionTable.isEmpty = true := Bd.noHandlers (atoms_spec (ws := [cw_LC_knownVehicle]) Bd.pre _ List.mem_cons_self)
  have hW0 := hO.1
  have hts := xs_w (args := ([.ref (xB s0 + XA 0 0), .int v] : List Value).toArray) h0 hW0
  have hK := xs_K h0 hW0
  have hl := lv_entry ([.ref (xB s0 + XA 0 0), .int v]) (n := 2) (Nat.le_of_ble_eq_true rfl)
  rw [lg_entry_eq]
  generalize (lg_sl ([.ref (xB s0 + XA 0 0), .int v]) ++ List.replicate (2 - (lg_sl ([.ref (xB s0 + XA 0 0), .int v])).length) Slot.unset).toArray = ls at hl ⊢
  have hl : lv_has ls 2 [(0, .ref (xB s0 + XA 0 0)), (1, .int v)] := hl
  generalize hR : S_LC_knownVehicle σ v = res
  unfold S_LC_knownVehicle at hR
  refine lv_iload_n hx hb d_LC_knownVehicle_0 rfl (lv_at hl 1 rfl) ?_
  refine lv_if_lt (tgt := 12) hx hb d_LC_knownVehicle_1 (by decide) (fun c1 => ?_) (fun c1 => ?_)
  · rw [if_pos c1] at hR
    obtain ⟨qs, hqs⟩ := xs_str h0 hW0 (own := "LoadChecks") (k := 217) (tx := "no such vehicle") (by decide +kernel); subst hR; refine W.widen (k := 0) (n := 0) (by decide) (by decide) ?_; exact x_throw hx hb h0.1 hown hlocks hnt (hl.1.trans hml.symm) (hts _ w_174) (hts _ w_42) hqs (x_own hO rfl (oa_IAE h0)) (by decide +kernel) (by decide +kernel) d_LC_knownVehicle_12 d_LC_knownVehicle_15 d_LC_knownVehicle_16 d_LC_knownVehicle_18 d_LC_knownVehicle_21 (Nat.le_of_ble_eq_true rfl) (Nat.le_of_ble_eq_true rfl) (Nat.le_of_ble_eq_true rfl) (Nat.le_of_ble_eq_true rfl) (fun x t h1 h2 => Or.inr ⟨_, x, rfl, rfl, h1, h2⟩)
  · rw [if_neg c1] at hR
    refine lv_iload_n hx hb d_LC_knownVehicle_4 rfl (lv_at hl 1 rfl) ?_
    refine lv_aload_n hx hb d_LC_knownVehicle_5 rfl (lv_at hl 0 rfl) ?_
    refine xw_get (C := R_LC) (T := F_LC) (N := 9) (r := 0) (i := 0) hx hb hts hi_LC hown hK hX (by decide) rfl rfl 6 (by decide) (hts _ w_139) rfl rfl d_LC_knownVehicle_6 ?_
    refine lv_icmp_lt (tgt := 22) hx hb d_LC_knownVehicle_9 (by decide) (fun c9 => ?_) (fun c9 => ?_)
    · rw [if_pos c9] at hR
      refine lv_aload_n hx hb d_LC_knownVehicle_22 rfl (lv_at hl 0 rfl) ?_
      refine xw_get (C := R_LC) (T := F_LC) (N := 9) (r := 0) (i := 0) hx hb hts hi_LC hown hK hX (by decide) rfl rfl 4 (by decide) (hts _ w_137) rfl rfl d_LC_knownVehicle_23 ?_
      refine lv_iload_n hx hb d_LC_knownVehicle_26 rfl (lv_at hl 1 rfl) ?_
      refine xw_aald (r := 6) (i := 0) hx hb hK hX (by decide) 4 rfl rfl rfl (j := v) (o_known hok c1 c9) rfl d_LC_knownVehicle_27 ?_
      subst hR
      refine W.widen (k := 1) (n := 6) (by decide) (by decide) ?_; exact xr_a hx hb hr (Or.inl ⟨_, rfl⟩) hlocks d_LC_knownVehicle_28
    · rw [if_neg c9] at hR
      obtain ⟨qs, hqs⟩ := xs_str h0 hW0 (own := "LoadChecks") (k := 217) (tx := "no such vehicle") (by decide +kernel); subst hR; refine W.widen (k := 0) (n := 0) (by decide) (by decide) ?_; exact x_throw hx hb h0.1 hown hlocks hnt (hl.1.trans hml.symm) (hts _ w_174) (hts _ w_42) hqs (x_own hO rfl (oa_IAE h0)) (by decide +kernel) (by decide +kernel) d_LC_knownVehicle_12 d_LC_knownVehicle_15 d_LC_knownVehicle_16 d_LC_knownVehicle_18 d_LC_knownVehicle_21 (Nat.le_of_ble_eq_true rfl) (Nat.le_of_ble_eq_true rfl) (Nat.le_of_ble_eq_true rfl) (Nat.le_of_ble_eq_true rfl) (fun x t h1 h2 => Or.inr ⟨_, x, rfl, rfl, h1, h2⟩)

abbrev rm_VE_frontMoment : Room := { frames := 0, cells := 0, slots := 0, locals := 0 }
def S_VE_frontMoment (σ : XS) (i : Nat) : Int64 := (((σ.2 9 i 11) * (σ.1 9 i 6).toInt64) - (σ.2 9 i 12))
set_option maxHeartbeats 4000000 in
set_option maxRecDepth 100000 in
theorem c_VE_frontMoment {l : Launch} {s0 : State} {A0 : Array Value} {D : va_G} {dA : Nat → ClassId} (h0 : XS0 l s0 A0 D dA) (σ : XS) (i : Nat) (hi_i : i < 16) : XMet l y_VE_frontMoment [cw_VE_frontMoment] rm_VE_frontMoment (XP D dA s0 σ [.ref (xB s0 + XA 9 i)]) (XQp xv_l (.inl (S_VE_frontMoment σ i))) 0 0 (fun _ => False) := by
  refine XMet.ofW (cc := b_VE_frontMoment) (maxL := 1) (ret := (some .long)) (by decide) rfl ?_
  intro p e s m args below meth c s₁ Bd hml hvA
  obtain ⟨rfl, hX, hO⟩ := hvA
  have hx := Bd.exec
  have hb := Bd.bytes
  have hr := Bd.returns
  have hown : s.vm.findClass "LoadChecks$Vehicle" = some m.cls := findClass_of_methodNamed Bd.named
  have hlocks := Bd.notSynchronized
  have hnt : c.exceptionTable.isEmpty = true := Bd.noHandlers (atoms_spec (ws := [cw_VE_frontMoment]) Bd.pre _ List.mem_cons_self)
  have hW0 := hO.1
  have hts := xs_w (args := ([.ref (xB s0 + XA 9 i)] : List Value).toArray) h0 hW0
  have hK := xs_K h0 hW0
  have hl := lv_entry ([.ref (xB s0 + XA 9 i)]) (n := 1) (Nat.le_of_ble_eq_true rfl)
  rw [lg_entry_eq]
  generalize (lg_sl ([.ref (xB s0 + XA 9 i)]) ++ List.replicate (1 - (lg_sl ([.ref (xB s0 + XA 9 i)])).length) Slot.unset).toArray = ls at hl ⊢
  have hl : lv_has ls 1 [(0, .ref (xB s0 + XA 9 i))] := hl
  generalize hR : S_VE_frontMoment σ i = res
  unfold S_VE_frontMoment at hR
  refine lv_aload_n hx hb d_VE_frontMoment_0 rfl (lv_at hl 0 rfl) ?_
  refine xw_get (C := R_VE) (T := F_VE) (N := 13) (r := 9) (i := i) hx hb hts hi_VE hown hK hX hi_i rfl rfl 11 (by decide) (hts _ w_103) rfl rfl d_VE_frontMoment_1 ?_
  refine lv_aload_n hx hb d_VE_frontMoment_4 rfl (lv_at hl 0 rfl) ?_
  refine xw_get (C := R_VE) (T := F_VE) (N := 13) (r := 9) (i := i) hx hb hts hi_VE hown hK hX hi_i rfl rfl 6 (by decide) (hts _ w_93) rfl rfl d_VE_frontMoment_5 ?_
  refine lv_i2l hx hb d_VE_frontMoment_8 rfl ?_
  refine lv_lmul hx hb d_VE_frontMoment_9 ?_
  refine lv_aload_n hx hb d_VE_frontMoment_10 rfl (lv_at hl 0 rfl) ?_
  refine xw_get (C := R_VE) (T := F_VE) (N := 13) (r := 9) (i := i) hx hb hts hi_VE hown hK hX hi_i rfl rfl 12 (by decide) (hts _ w_104) rfl rfl d_VE_frontMoment_11 ?_
  refine lv_lsub hx hb d_VE_frontMoment_14 ?_
  subst hR
  refine W.widen (k := 0) (n := 0) (by decide) (by decide) ?_; exact xr_l hx hb hr hlocks d_VE_frontMoment_15

abbrev rm_VE_rearMoment : Room := { frames := 0, cells := 0, slots := 0, locals := 0 }
def S_VE_rearMoment (σ : XS) (i : Nat) : Int64 := (σ.2 9 i 12)
set_option maxHeartbeats 4000000 in
set_option maxRecDepth 100000 in
theorem c_VE_rearMoment {l : Launch} {s0 : State} {A0 : Array Value} {D : va_G} {dA : Nat → ClassId} (h0 : XS0 l s0 A0 D dA) (σ : XS) (i : Nat) (hi_i : i < 16) : XMet l y_VE_rearMoment [cw_VE_rearMoment] rm_VE_rearMoment (XP D dA s0 σ [.ref (xB s0 + XA 9 i)]) (XQp xv_l (.inl (S_VE_rearMoment σ i))) 0 0 (fun _ => False) := by
  refine XMet.ofW (cc := b_VE_rearMoment) (maxL := 1) (ret := (some .long)) (by decide) rfl ?_
  intro p e s m args below meth c s₁ Bd hml hvA
  obtain ⟨rfl, hX, hO⟩ := hvA
  have hx := Bd.exec
  have hb := Bd.bytes
  have hr := Bd.returns
  have hown : s.vm.findClass "LoadChecks$Vehicle" = some m.cls := findClass_of_methodNamed Bd.named
  have hlocks := Bd.notSynchronized
  have hnt : c.exceptionTable.isEmpty = true := Bd.noHandlers (atoms_spec (ws := [cw_VE_rearMoment]) Bd.pre _ List.mem_cons_self)
  have hW0 := hO.1
  have hts := xs_w (args := ([.ref (xB s0 + XA 9 i)] : List Value).toArray) h0 hW0
  have hK := xs_K h0 hW0
  have hl := lv_entry ([.ref (xB s0 + XA 9 i)]) (n := 1) (Nat.le_of_ble_eq_true rfl)
  rw [lg_entry_eq]
  generalize (lg_sl ([.ref (xB s0 + XA 9 i)]) ++ List.replicate (1 - (lg_sl ([.ref (xB s0 + XA 9 i)])).length) Slot.unset).toArray = ls at hl ⊢
  have hl : lv_has ls 1 [(0, .ref (xB s0 + XA 9 i))] := hl
  generalize hR : S_VE_rearMoment σ i = res
  unfold S_VE_rearMoment at hR
  refine lv_aload_n hx hb d_VE_rearMoment_0 rfl (lv_at hl 0 rfl) ?_
  refine xw_get (C := R_VE) (T := F_VE) (N := 13) (r := 9) (i := i) hx hb hts hi_VE hown hK hX hi_i rfl rfl 12 (by decide) (hts _ w_104) rfl rfl d_VE_rearMoment_1 ?_
  subst hR
  refine W.widen (k := 0) (n := 0) (by decide) (by decide) ?_; exact xr_l hx hb hr hlocks d_VE_rearMoment_4

abbrev rm_VE_exceeds : Room := { frames := 0, cells := 0, slots := 0, locals := 0 }
def S_VE_exceeds (σ : XS) (i : Nat) (mo : Int64) (lim : Int32) : Int32 := (if (lg_cmp mo (lim.toInt64 * (σ.1 9 i 6).toInt64)) ≤ 0 then (0 : Int32) else (1 : Int32))
set_option maxHeartbeats 4000000 in
set_option maxRecDepth 100000 in
theorem c_VE_exceeds {l : Launch} {s0 : State} {A0 : Array Value} {D : va_G} {dA : Nat → ClassId} (h0 : XS0 l s0 A0 D dA) (σ : XS) (i : Nat) (mo : Int64) (lim : Int32) (hi_i : i < 16) : XMet l y_VE_exceeds [cw_VE_exceeds] rm_VE_exceeds (XP D dA s0 σ [.ref (xB s0 + XA 9 i), .long mo, .int lim]) (XQp xv_i (.inl (S_VE_exceeds σ i mo lim))) 0 0 (fun _ => False) := by
  refine XMet.ofW (cc := b_VE_exceeds) (maxL := 4) (ret := (some .boolean)) (by decide) rfl ?_
  intro p e s m args below meth c s₁ Bd hml hvA
  obtain ⟨rfl, hX, hO⟩ := hvA
  have hx := Bd.exec
  have hb := Bd.bytes
  have hr := Bd.returns
  have hown : s.vm.findClass "LoadChecks$Vehicle" = some m.cls := findClass_of_methodNamed Bd.named
  have hlocks := Bd.notSynchronized
  have hnt : c.exceptionTable.isEmpty = true := Bd.noHandlers (atoms_spec (ws := [cw_VE_exceeds]) Bd.pre _ List.mem_cons_self)
  have hW0 := hO.1
  have hts := xs_w (args := ([.ref (xB s0 + XA 9 i), .long mo, .int lim] : List Value).toArray) h0 hW0
  have hK := xs_K h0 hW0
  have hl := lv_entry ([.ref (xB s0 + XA 9 i), .long mo, .int lim]) (n := 4) (Nat.le_of_ble_eq_true rfl)
  rw [lg_entry_eq]
  generalize (lg_sl ([.ref (xB s0 + XA 9 i), .long mo, .int lim]) ++ List.replicate (4 - (lg_sl ([.ref (xB s0 + XA 9 i), .long mo, .int lim])).length) Slot.unset).toArray = ls at hl ⊢
  have hl : lv_has ls 4 [(0, .ref (xB s0 + XA 9 i)), (1, .long mo), (3, .int lim)] := hl
  generalize hR : S_VE_exceeds σ i mo lim = res
  unfold S_VE_exceeds at hR
  refine lv_lload_n hx hb d_VE_exceeds_0 rfl (lv_at hl 1 rfl) ?_
  refine lv_iload_n hx hb d_VE_exceeds_1 rfl (lv_at hl 2 rfl) ?_
  refine lv_i2l hx hb d_VE_exceeds_2 rfl ?_
  refine lv_aload_n hx hb d_VE_exceeds_3 rfl (lv_at hl 0 rfl) ?_
  refine xw_get (C := R_VE) (T := F_VE) (N := 13) (r := 9) (i := i) hx hb hts hi_VE hown hK hX hi_i rfl rfl 6 (by decide) (hts _ w_93) rfl rfl d_VE_exceeds_4 ?_
  refine lv_i2l hx hb d_VE_exceeds_7 rfl ?_
  refine lv_lmul hx hb d_VE_exceeds_8 ?_
  refine W.lcmp hx hb d_VE_exceeds_9 ?_
  refine lv_if_le (tgt := 17) hx hb d_VE_exceeds_10 (by decide) (fun c10 => ?_) (fun c10 => ?_)
  · rw [if_pos c10] at hR
    refine lv_iconst (v := 0) hx hb d_VE_exceeds_17 (by decide) ?_
    subst hR
    refine W.widen (k := 0) (n := 0) (by decide) (by decide) ?_; exact xr_z hx hb hr hlocks (by rfl) d_VE_exceeds_18
  · rw [if_neg c10] at hR
    refine lv_iconst (v := 1) hx hb d_VE_exceeds_13 (by decide) ?_
    refine lv_goto (tgt := 18) hx hb d_VE_exceeds_14 (by decide) ?_
    subst hR
    refine W.widen (k := 0) (n := 0) (by decide) (by decide) ?_; exact xr_z hx hb hr hlocks (by rfl) d_VE_exceeds_18

abbrev rm_VE_isBeyond : Room := { frames := 1, cells := 0, slots := 0, locals := 23 }
def S_VE_isBeyond (σ : XS) (i : Nat) : Int32 := (if (S_VE_exceeds σ i (S_VE_frontMoment σ i) (σ.1 9 i 7)) = 0 then (if (S_VE_exceeds σ i (S_VE_rearMoment σ i) (σ.1 9 i 8)) = 0 then (0 : Int32) else (1 : Int32)) else (1 : Int32))
set_option maxHeartbeats 4000000 in
set_option maxRecDepth 100000 in
theorem c_VE_isBeyond {l : Launch} {s0 : State} {A0 : Array Value} {D : va_G} {dA : Nat → ClassId} (h0 : XS0 l s0 A0 D dA) (σ : XS) (i : Nat) (hi_i : i < 16) : XMet l y_VE_isBeyond [cw_VE_isBeyond] rm_VE_isBeyond (XP D dA s0 σ [.ref (xB s0 + XA 9 i)]) (XQp xv_i (.inl (S_VE_isBeyond σ i))) 0 0 (fun _ => False) := by
  refine XMet.ofW (cc := b_VE_isBeyond) (maxL := 1) (ret := (some .boolean)) (by decide) rfl ?_
  intro p e s m args below meth c s₁ Bd hml hvA
  obtain ⟨rfl, hX, hO⟩ := hvA
  have hx := Bd.exec
  have hb := Bd.bytes
  have hr := Bd.returns
  have hown : s.vm.findClass "LoadChecks$Vehicle" = some m.cls := findClass_of_methodNamed Bd.named
  have hlocks := Bd.notSynchronized
  have hnt : c.exceptionTable.isEmpty = true := Bd.noHandlers (atoms_spec (ws := [cw_VE_isBeyond]) Bd.pre _ List.mem_cons_self)
  have hW0 := hO.1
  have hts := xs_w (args := ([.ref (xB s0 + XA 9 i)] : List Value).toArray) h0 hW0
  have hK := xs_K h0 hW0
  have hl := lv_entry ([.ref (xB s0 + XA 9 i)]) (n := 1) (Nat.le_of_ble_eq_true rfl)
  rw [lg_entry_eq]
  generalize (lg_sl ([.ref (xB s0 + XA 9 i)]) ++ List.replicate (1 - (lg_sl ([.ref (xB s0 + XA 9 i)])).length) Slot.unset).toArray = ls at hl ⊢
  have hl : lv_has ls 1 [(0, .ref (xB s0 + XA 9 i))] := hl
  generalize hR : S_VE_isBeyond σ i = res
  unfold S_VE_isBeyond at hR
  refine lv_aload_n hx hb d_VE_isBeyond_0 rfl (lv_at hl 0 rfl) ?_
  refine lv_aload_n hx hb d_VE_isBeyond_1 rfl (lv_at hl 0 rfl) ?_
  obtain ⟨cB2, hcB2, hoB2, hkB2⟩ := xw_recv (r := 9) (i := i) hK hX hi_i rfl rfl
  refine xc_f (rest := [.ref (xB s0 + XA 9 i)]) (x_invV (argsL := []) hx hb hown (hts _ w_382) (hts _ w_384) (hts _ w_7) (x_code (hts _ w_385)) ⟨by decide, by decide⟩ hcB2 hoB2 hkB2 rfl rfl rfl d_VE_isBeyond_2) (c_VE_frontMoment h0 σ i hi_i) (xs_cw h0 hW0 m_385) (hts _ w_36) ⟨rfl, rfl, Nat.le_of_ble_eq_true rfl, Nat.le_of_ble_eq_true rfl⟩ (hl.1.trans hml.symm) (by rw [hb]; exact d_VE_isBeyond_2) (Nat.le_of_ble_eq_true rfl) ⟨Nat.le_of_ble_eq_true rfl, Nat.le_of_ble_eq_true rfl⟩ hX hO ?_
  refine lv_aload_n hx hb d_VE_isBeyond_5 rfl (lv_at hl 0 rfl) ?_
  refine xw_get (C := R_VE) (T := F_VE) (N := 13) (r := 9) (i := i) hx hb hts hi_VE hown hK hX hi_i rfl rfl 7 (by decide) (hts _ w_96) rfl rfl d_VE_isBeyond_6 ?_
  obtain ⟨cB9, hcB9, hoB9, hkB9⟩ := xw_recv (r := 9) (i := i) hK hX hi_i rfl rfl
  refine xc_f (rest := []) (x_invV (argsL := [.long (S_VE_frontMoment σ i), .int (σ.1 9 i 7)]) hx hb hown (hts _ w_386) (hts _ w_388) (hts _ w_8) (x_code (hts _ w_389)) ⟨by decide, by decide⟩ hcB9 hoB9 hkB9 rfl rfl rfl d_VE_isBeyond_9) (c_VE_exceeds h0 σ i (S_VE_frontMoment σ i) (σ.1 9 i 7) hi_i) (xs_cw h0 hW0 m_389) (hts _ w_36) ⟨rfl, rfl, Nat.le_of_ble_eq_true rfl, Nat.le_of_ble_eq_true rfl⟩ (hl.1.trans hml.symm) (by rw [hb]; exact d_VE_isBeyond_9) (Nat.le_of_ble_eq_true rfl) ⟨Nat.le_of_ble_eq_true rfl, Nat.le_of_ble_eq_true rfl⟩ hX hO ?_
  refine lv_if_ne (tgt := 30) hx hb d_VE_isBeyond_12 (by decide) (fun c12 => ?_) (fun c12 => ?_)
  · rw [if_neg c12] at hR
    refine lv_iconst (v := 1) hx hb d_VE_isBeyond_30 (by decide) ?_
    refine lv_goto (tgt := 35) hx hb d_VE_isBeyond_31 (by decide) ?_
    subst hR
    refine W.widen (k := 0) (n := 0) (by decide) (by decide) ?_; exact xr_z hx hb hr hlocks (by rfl) d_VE_isBeyond_35
  · rw [if_pos c12] at hR
    refine lv_aload_n hx hb d_VE_isBeyond_15 rfl (lv_at hl 0 rfl) ?_
    refine lv_aload_n hx hb d_VE_isBeyond_16 rfl (lv_at hl 0 rfl) ?_
    obtain ⟨cB17, hcB17, hoB17, hkB17⟩ := xw_recv (r := 9) (i := i) hK hX hi_i rfl rfl
    refine xc_f (rest := [.ref (xB s0 + XA 9 i)]) (x_invV (argsL := []) hx hb hown (hts _ w_390) (hts _ w_392) (hts _ w_9) (x_code (hts _ w_393)) ⟨by decide, by decide⟩ hcB17 hoB17 hkB17 rfl rfl rfl d_VE_isBeyond_17) (c_VE_rearMoment h0 σ i hi_i) (xs_cw h0 hW0 m_393) (hts _ w_36) ⟨rfl, rfl, Nat.le_of_ble_eq_true rfl, Nat.le_of_ble_eq_true rfl⟩ (hl.1.trans hml.symm) (by rw [hb]; exact d_VE_isBeyond_17) (Nat.le_of_ble_eq_true rfl) ⟨Nat.le_of_ble_eq_true rfl, Nat.le_of_ble_eq_true rfl⟩ hX hO ?_
    refine lv_aload_n hx hb d_VE_isBeyond_20 rfl (lv_at hl 0 rfl) ?_
    refine xw_get (C := R_VE) (T := F_VE) (N := 13) (r := 9) (i := i) hx hb hts hi_VE hown hK hX hi_i rfl rfl 8 (by decide) (hts _ w_98) rfl rfl d_VE_isBeyond_21 ?_
    obtain ⟨cB24, hcB24, hoB24, hkB24⟩ := xw_recv (r := 9) (i := i) hK hX hi_i rfl rfl
    refine xc_f (rest := []) (x_invV (argsL := [.long (S_VE_rearMoment σ i), .int (σ.1 9 i 8)]) hx hb hown (hts _ w_386) (hts _ w_388) (hts _ w_8) (x_code (hts _ w_389)) ⟨by decide, by decide⟩ hcB24 hoB24 hkB24 rfl rfl rfl d_VE_isBeyond_24) (c_VE_exceeds h0 σ i (S_VE_rearMoment σ i) (σ.1 9 i 8) hi_i) (xs_cw h0 hW0 m_389) (hts _ w_36) ⟨rfl, rfl, Nat.le_of_ble_eq_true rfl, Nat.le_of_ble_eq_true rfl⟩ (hl.1.trans hml.symm) (by rw [hb]; exact d_VE_isBeyond_24) (Nat.le_of_ble_eq_true rfl) ⟨Nat.le_of_ble_eq_true rfl, Nat.le_of_ble_eq_true rfl⟩ hX hO ?_
    refine lv_if_eq (tgt := 34) hx hb d_VE_isBeyond_27 (by decide) (fun c27 => ?_) (fun c27 => ?_)
    · rw [if_pos c27] at hR
      refine lv_iconst (v := 0) hx hb d_VE_isBeyond_34 (by decide) ?_
      subst hR
      refine W.widen (k := 0) (n := 0) (by decide) (by decide) ?_; exact xr_z hx hb hr hlocks (by rfl) d_VE_isBeyond_35
    · rw [if_neg c27] at hR
      refine lv_iconst (v := 1) hx hb d_VE_isBeyond_30 (by decide) ?_
      refine lv_goto (tgt := 35) hx hb d_VE_isBeyond_31 (by decide) ?_
      subst hR
      refine W.widen (k := 0) (n := 0) (by decide) (by decide) ?_; exact xr_z hx hb hr hlocks (by rfl) d_VE_isBeyond_35
