/-! the contracts' form -/
def XWs (D : va_G) (dA : Nat → ClassId) (s0 : State) (σ : XS) (H : Heap) : Prop := XW D vwCl XA XN (xB s0) (XE dA (xB s0) σ) H
def xAm (s0 : State) : Nat → Prop := fun q => xB s0 ≤ q
theorem xA_in (s0 : State) (r i : Nat) : xAm s0 (xB s0 + XA r i) := Nat.le_add_right _ _
/-- what is fixed from the law's start s0 on -/
def XS0 (l : Launch) (s0 : State) (A0 : Array Value) (D : va_G) (dA : Nat → ClassId) : Prop :=
  l.flags = pinnedFlags ++ [noTraceFlag] ∧ (∀ w ∈ lw_tbl, w.before A0 s0 = true) ∧ va_K D vwCl (xtys dA) s0 ∧ (∀ q ∈ xStr, ∃ a, vk_R q.1 q.2.1 q.2.2 a s0) ∧ ∀ w ∈ flatC (Jvm.Cond.and given_1 narrow_1), w.before A0 s0 = true
def XP (D : va_G) (dA : Nat → ClassId) (s0 : State) (σ : XS) (av : List Value) : Array Value → State → Prop := fun v U => v = av.toArray ∧ XWs D dA s0 σ U.heap ∧ XO s0 U U.heap
theorem xp_blind {D : va_G} {dA : Nat → ClassId} {s0 : State} {σ : XS} {av : List Value} : FrameBlind (XP D dA s0 σ av) := fun _ _ _ _ h => ⟨h.1, h.2.1, h.2.2⟩
def XQp {α : Type} (vw : α → Option Value) (res : α ⊕ String) : Array Value → State → Outcome → State → Prop := fun _ st o t =>
  (∃ v, res = .inl v ∧ o = .returned (vw v) ∧ t.heap = st.heap) ∨ (∃ (E : String) (x : Addr), res = .inr E ∧ o = .threw x ∧ XH E x t.heap st ∧ XExt st.heap t.heap)
def XQs (D : va_G) (dA : Nat → ClassId) (s0 : State) {α : Type} (vw : α → Option Value) (res : (α × XS) ⊕ String) : Array Value → State → Outcome → State → Prop := fun _ st o t =>
  (∃ v σ, res = .inl (v, σ) ∧ o = .returned (vw v) ∧ XWs D dA s0 σ t.heap ∧ XExt s0.heap t.heap) ∨ (∃ (E : String) (x : Addr), res = .inr E ∧ o = .threw x ∧ XH E x t.heap st ∧ XExt st.heap t.heap)
def xv_i (v : Int32) : Option Value := some (.int v)
def xv_l (v : Int64) : Option Value := some (.long v)
def xv_v (_ : Unit) : Option Value := none
def xv_r (s0 : State) (r : Nat) (i : Nat) : Option Value := some (.ref (xB s0 + XA r i))
theorem xs_cw {l : Launch} {s0 s : State} {A0 : Array Value} {D : va_G} {dA : Nat → ClassId} {y : MethodName} {bytes : ByteArray} {maxL : Nat} {ret : Option FieldType} (h0 : XS0 l s0 A0 D dA) (hW0 : s0.WarmedH s.vm) (hmem : Cond.code y bytes maxL ret ∈ lw_tbl) :
    ∀ (a : Array Value) (U : State), s.WarmedH U.vm → (Cond.code y bytes maxL ret).before a U = true ∧ XCode y maxL U := fun a U hW => by
  have h : (Cond.code y bytes maxL ret).before a U = true := x_word rfl rfl (State.WarmedH.trans hW0 hW) (h0.2.1 _ hmem)
  exact ⟨h, x_code h⟩
theorem xs_cwW {l : Launch} {s0 s : State} {A0 : Array Value} {D : va_G} {dA : Nat → ClassId} {y : MethodName} {bytes : ByteArray} {maxL : Nat} {ret : Option FieldType} {hh : List (Nat × Nat × Nat × Nat)} (h0 : XS0 l s0 A0 D dA) (hW0 : s0.WarmedH s.vm) (hmem : Cond.codeWith y bytes maxL ret hh ∈ lw_tbl) :
    ∀ (a : Array Value) (U : State), s.WarmedH U.vm → (Cond.codeWith y bytes maxL ret hh).before a U = true ∧ XCode y maxL U := fun a U hW => by
  have h : (Cond.codeWith y bytes maxL ret hh).before a U = true := x_word rfl rfl (State.WarmedH.trans hW0 hW) (h0.2.1 _ hmem)
  exact ⟨h, x_codeW h⟩
/-- any word of the tables, at a later state -/
theorem xs_w {l : Launch} {s0 s : State} {A0 args : Array Value} {D : va_G} {dA : Nat → ClassId} (h0 : XS0 l s0 A0 D dA) (hW0 : s0.WarmedH s.vm) : ∀ w ∈ xT, w.before args s = true := fun w hw => by
  obtain ⟨h1, h2⟩ := List.mem_filter.mp hw
  have h3 : w.onTables = true ∧ w.keepsFace = true := by simpa [x_goodW] using h2
  exact x_word h3.1 h3.2 hW0 (h0.2.1 w h1)
theorem xs_K {l : Launch} {s0 s : State} {A0 : Array Value} {D : va_G} {dA : Nat → ClassId} (h0 : XS0 l s0 A0 D dA) (hW0 : s0.WarmedH s.vm) : va_K D vwCl (xtys dA) s := va_K.moved hW0.alike h0.2.2.1
theorem xs_N {l : Launch} {s0 s : State} {A0 args : Array Value} {D : va_G} {dA : Nat → ClassId} (h0 : XS0 l s0 A0 D dA) (hW0 : s0.WarmedH s.vm) {a : String} {i : Nat} {b n d h : String} (hm : Cond.fieldLinkNest a i b n d h ∈ lw_tbl) : (Cond.fieldLinkNest a i b n d h).before args s = true :=
  va_Nw.use rfl (va_Nw.warmF hW0 (va_Nw.of rfl (h0.2.1 _ hm)))
theorem xs_M {l : Launch} {s0 s : State} {A0 args : Array Value} {D : va_G} {dA : Nat → ClassId} (h0 : XS0 l s0 A0 D dA) (hW0 : s0.WarmedH s.vm) {a : String} {i : Nat} {x : MethodName} {h : String} (hm : Cond.methodLinkNest a i x h ∈ lw_tbl) : (Cond.methodLinkNest a i x h).before args s = true :=
  va_Nw.use rfl (va_Nw.warmM hW0 (va_Nw.of rfl (h0.2.1 _ hm)))
theorem xs_str {l : Launch} {s0 s : State} {A0 : Array Value} {D : va_G} {dA : Nat → ClassId} (h0 : XS0 l s0 A0 D dA) (hW0 : s0.WarmedH s.vm) {own tx : String} {k : Nat} (hm : (own, k, tx) ∈ xStr) : ∃ a, vk_R own k tx a s := by
  obtain ⟨a, h⟩ := h0.2.2.2.1 _ hm
  exact ⟨a, vk_R.warm hW0 h⟩
theorem vp_lt {j : Int32} {n : Nat} (h : vp_in j n) : j.toNatClampNeg < n := Nat.not_le.mp fun q => h (Or.inr q)
section XK6
variable {p : Program} {l : Launch} {e : Env} {R : Room} {s s0 : State} {m : MethodId} {args : Array Value} {below : List Frame} {meth : Method} {c : Code} {H : Heap} {locs : List Loc} {cells slots : Nat} {Q : State → Prop} {D : va_G} {dA : Nat → ClassId} {σ : XS}
theorem xo_S (hS : va_S (xAm s0) s0.heap H locs) : XExt s0.heap H := ⟨hS.1, fun q hq => hS.2.1 q hq (Nat.not_le.mpr hq)⟩
theorem xo_S0 (hO : XO s0 s s.heap) : va_S (xAm s0) s0.heap s.heap [] := ⟨hO.2.1, fun q hq _ => hO.2.2 q hq, fun q h => by cases h⟩
/-- a call of a method that writes nothing -/
theorem xc_p {α : Type} {vw : α → Option Value} {res : α ⊕ String} {y : MethodName} {av rest st0 : List Value} {pc : Nat} {ls : Array Slot} {ig : Instr} {rm : Room} {mc ms maxL : Nat} {cw : Cond}
    (I : XInv p l e R s m args below meth c H locs cells slots (F0 m pc ls st0) rest y av) (hM : XMet l y [cw] rm (XP D dA s0 σ av) (XQp vw res) mc ms (fun _ => False))
    (hcw : ∀ (a : Array Value) (U : State), s.WarmedH U.vm → cw.before a U = true ∧ XCode y maxL U) (hini : (Cond.initialized y.cls).before args s = true)
    (hr : rm.cells = mc ∧ rm.slots = ms ∧ rm.frames + 1 ≤ R.frames ∧ 8 + (maxL + 11) + rm.locals ≤ R.locals)
    (hsize : ls.size = c.maxLocals) (hdg : decode c.code pc = .ok (ig, 3)) (hWt : (rest.map fun v => v.category).sum ≤ 8) (hroom : cells + mc ≤ R.cells ∧ slots + ms ≤ R.slots)
    (hX : XWs D dA s0 σ H) (hO : XO s0 s H)
    (kr : ∀ v, res = .inl v → W p l e R s m args below meth c H locs (cells + mc) (slots + ms) Q (F0 m (pc + 3) ls ((vw v).toList ++ rest)))
    (kt : ∀ (E : String) (x : Addr) (H1 : Heap), res = .inr E → XH E x H1 s → XExt H H1 → XT p l e R s m args below meth c H1 locs (cells + mc) (slots + ms) Q (F0 m pc ls rest) x) :
    W p l e R s m args below meth c H locs cells slots Q (F0 m pc ls st0) := by
  refine x_go I (x_back hM xp_blind hr.1 hr.2.1 hr.2.2.1 hr.2.2.2 (fun w hw a' U hW => ?_) (fun U mk hW hn => ?_) (fun a' U hW => x_word rfl rfl hW hini)) hsize hdg hWt hroom (fun U hU hW => ⟨rfl, by rw [hU]; exact hX, State.WarmedH.trans hO.1 hW, by rw [hU]; exact hO.2⟩) ?_ ?_
  · cases List.mem_singleton.mp hw
    exact (hcw a' U hW).1
  · obtain ⟨mk', methY, cY, h1, h2, h3, h4, -⟩ := (hcw #[] U hW).2
    cases hn.symm.trans h1
    exact ⟨methY, cY, h2, h3, h4⟩
  · intro v st₀ t L h1 h2 h3 hq hL
    have hL0 : L = [] := List.eq_nil_iff_forall_not_mem.mpr (fun q hq => hL q hq)
    subst hL0
    rw [List.append_nil]
    rcases hq with ⟨v', e1, e2, e3⟩ | ⟨E, x, -, e2, -⟩
    · cases e2
      rw [e3, h1]
      exact kr v' e1
    · cases e2
  · intro x st₀ t L h1 h2 h3 hq hL
    have hL0 : L = [] := List.eq_nil_iff_forall_not_mem.mpr (fun q hq => hL q hq)
    subst hL0
    rw [List.append_nil]
    rcases hq with ⟨v', -, e2, -⟩ | ⟨E, x', e1, e2, e3, e4⟩
    · cases e2
    · cases e2
      exact kt E x t.heap e1 (e3.moved h2.alike.symm) (by rw [← h1]; exact e4)
theorem xc_f {α : Type} {vw : α → Option Value} {v : α} {y : MethodName} {av rest st0 : List Value} {pc : Nat} {ls : Array Slot} {ig : Instr} {rm : Room} {maxL : Nat} {cw : Cond}
    (I : XInv p l e R s m args below meth c H locs cells slots (F0 m pc ls st0) rest y av) (hM : XMet l y [cw] rm (XP D dA s0 σ av) (XQp vw (.inl v)) 0 0 (fun _ => False))
    (hcw : ∀ (a : Array Value) (U : State), s.WarmedH U.vm → cw.before a U = true ∧ XCode y maxL U) (hini : (Cond.initialized y.cls).before args s = true)
    (hr : rm.cells = 0 ∧ rm.slots = 0 ∧ rm.frames + 1 ≤ R.frames ∧ 8 + (maxL + 11) + rm.locals ≤ R.locals)
    (hsize : ls.size = c.maxLocals) (hdg : decode c.code pc = .ok (ig, 3)) (hWt : (rest.map fun v => v.category).sum ≤ 8) (hroom : cells ≤ R.cells ∧ slots ≤ R.slots)
    (hX : XWs D dA s0 σ H) (hO : XO s0 s H)
    (kr : W p l e R s m args below meth c H locs cells slots Q (F0 m (pc + 3) ls ((vw v).toList ++ rest))) :
    W p l e R s m args below meth c H locs cells slots Q (F0 m pc ls st0) :=
  xc_p I hM hcw hini hr hsize hdg hWt hroom hX hO (fun v' h => by cases h; exact kr) (fun E x H1 h => by cases h)
/-- a call of a method that may write and may throw -/
theorem xc_s {α : Type} {vw : α → Option Value} {res : (α × XS) ⊕ String} {y : MethodName} {av rest st0 : List Value} {pc : Nat} {ls : Array Slot} {ig : Instr} {rm : Room} {mc ms maxL : Nat} {cw : Cond}
    (I : XInv p l e R s m args below meth c H locs cells slots (F0 m pc ls st0) rest y av) (hM : XMet l y [cw] rm (XP D dA s0 σ av) (XQs D dA s0 vw res) mc ms (xAm s0))
    (hcw : ∀ (a : Array Value) (U : State), s.WarmedH U.vm → cw.before a U = true ∧ XCode y maxL U) (hini : (Cond.initialized y.cls).before args s = true)
    (hr : rm.cells = mc ∧ rm.slots = ms ∧ rm.frames + 1 ≤ R.frames ∧ 8 + (maxL + 11) + rm.locals ≤ R.locals)
    (hsize : ls.size = c.maxLocals) (hdg : decode c.code pc = .ok (ig, 3)) (hWt : (rest.map fun v => v.category).sum ≤ 8) (hroom : cells + mc ≤ R.cells ∧ slots + ms ≤ R.slots)
    (hX : XWs D dA s0 σ H) (hW0 : s0.WarmedH s.vm) (hS : va_S (xAm s0) s0.heap H locs)
    (kr : ∀ (v : α) (σ1 : XS) (H1 : Heap) (locs1 : List Loc), res = .inl (v, σ1) → XWs D dA s0 σ1 H1 → va_S (xAm s0) s0.heap H1 locs1 → W p l e R s m args below meth c H1 locs1 (cells + mc) (slots + ms) Q (F0 m (pc + 3) ls ((vw v).toList ++ rest)))
    (kt : ∀ (E : String) (x : Addr) (H1 : Heap) (locs1 : List Loc), res = .inr E → XH E x H1 s → XExt H H1 → va_S (xAm s0) s0.heap H1 locs1 → XT p l e R s m args below meth c H1 locs1 (cells + mc) (slots + ms) Q (F0 m pc ls rest) x) :
    W p l e R s m args below meth c H locs cells slots Q (F0 m pc ls st0) := by
  refine x_go I (x_back hM xp_blind hr.1 hr.2.1 hr.2.2.1 hr.2.2.2 (fun w hw a' U hW => ?_) (fun U mk hW hn => ?_) (fun a' U hW => x_word rfl rfl hW hini)) hsize hdg hWt hroom (fun U hU hW => ⟨rfl, by rw [hU]; exact hX, State.WarmedH.trans hW0 hW, by rw [hU]; exact xo_S hS⟩) ?_ ?_
  · cases List.mem_singleton.mp hw
    exact (hcw a' U hW).1
  · obtain ⟨mk', methY, cY, h1, h2, h3, h4, -⟩ := (hcw #[] U hW).2
    cases hn.symm.trans h1
    exact ⟨methY, cY, h2, h3, h4⟩
  · intro v st₀ t L h1 h2 h3 hq hL
    rcases hq with ⟨v', σ1, e1, e2, e3, e4⟩ | ⟨E, x, -, e2, -⟩
    · cases e2
      refine kr v' σ1 t.heap (locs ++ L) e1 e3 ⟨e4.1, fun q hq _ => e4.2 q hq, fun q hq => ?_⟩
      rcases List.mem_append.mp hq with h | h
      · exact hS.2.2 q h
      · exact hL q h
    · cases e2
  · intro x st₀ t L h1 h2 h3 hq hL
    rcases hq with ⟨v', σ1, -, e2, -⟩ | ⟨E, x', e1, e2, e3, e4⟩
    · cases e2
    · cases e2
      rw [h1] at e4
      have e5 := (xo_S hS).tr e4
      refine kt E x t.heap (locs ++ L) e1 (e3.moved h2.alike.symm) e4 ⟨e5.1, fun q hq _ => e5.2 q hq, fun q hq => ?_⟩
      rcases List.mem_append.mp hq with h | h
      · exact hS.2.2 q h
      · exact hL q h
variable {cc : ByteArray} {pc : Nat} {ls : Array Slot} {rest : List Value}
/-! ends -/
theorem xr_i (hexec : p.tables.exec = Jvm.exec) (hb : c.code = cc) (hr : meth.sig.returnType = some .int) (hlocks : meth.locks = false) {v : Int32} (hdg : decode cc pc = .ok (.ireturn, 1)) : W p l e R s m args below meth c s.heap [] cells slots (XMQ below (XQp xv_i (.inl v)) args s cells slots (fun _ => False)) (F0 m pc ls [.int v]) :=
  x_mono x_ofMQ (W.iret hexec hb hr (fun t ht hW => Or.inl ⟨v, rfl, rfl, ht⟩) (fun q h => by cases h) hdg hlocks)
theorem xr_z (hexec : p.tables.exec = Jvm.exec) (hb : c.code = cc) (hr : meth.sig.returnType = some .boolean) (hlocks : meth.locks = false) {v : Int32} (hn : narrow .boolean (.int v) = .int v) (hdg : decode cc pc = .ok (.ireturn, 1)) : W p l e R s m args below meth c s.heap [] cells slots (XMQ below (XQp xv_i (.inl v)) args s cells slots (fun _ => False)) (F0 m pc ls [.int v]) :=
  x_mono x_ofMQ (W.zret hexec hb hr hn (fun t ht hW => Or.inl ⟨v, rfl, rfl, ht⟩) (fun q h => by cases h) hdg hlocks)
theorem xr_l (hexec : p.tables.exec = Jvm.exec) (hb : c.code = cc) (hr : meth.sig.returnType = some .long) (hlocks : meth.locks = false) {v : Int64} (hdg : decode cc pc = .ok (.lreturn, 1)) : W p l e R s m args below meth c s.heap [] cells slots (XMQ below (XQp xv_l (.inl v)) args s cells slots (fun _ => False)) (F0 m pc ls [.long v]) :=
  x_mono x_ofMQ (W.lret hexec hb hr (fun t ht hW => Or.inl ⟨v, rfl, rfl, ht⟩) (fun q h => by cases h) hdg hlocks)
theorem xr_v (hexec : p.tables.exec = Jvm.exec) (hb : c.code = cc) (hr : meth.sig.returnType = none) (hlocks : meth.locks = false) (hdg : decode cc pc = .ok (.return_, 1)) : W p l e R s m args below meth c s.heap [] cells slots (XMQ below (XQp xv_v (.inl ())) args s cells slots (fun _ => False)) (F0 m pc ls []) :=
  x_mono x_ofMQ (W.vret hexec hb hr (fun t ht hW => Or.inl ⟨(), rfl, rfl, ht⟩) (fun q h => by cases h) hdg hlocks)
theorem xr_a (hexec : p.tables.exec = Jvm.exec) (hb : c.code = cc) {rt : FieldType} (hr : meth.sig.returnType = some rt) (hrt : (∃ n, rt = .object n) ∨ ∃ t, rt = .array t) (hlocks : meth.locks = false) {r i : Nat} (hdg : decode cc pc = .ok (.areturn, 1)) : W p l e R s m args below meth c s.heap [] cells slots (XMQ below (XQp (xv_r s0 r) (.inl i)) args s cells slots (fun _ => False)) (F0 m pc ls [.ref (xB s0 + XA r i)]) :=
  x_mono x_ofMQ (W.aret hexec hb hr hrt (Or.inr ⟨_, rfl⟩) (fun t ht hW => Or.inl ⟨i, rfl, rfl, ht⟩) (fun q h => by cases h) hdg hlocks)
theorem xs_i (hexec : p.tables.exec = Jvm.exec) (hb : c.code = cc) (hr : meth.sig.returnType = some .int) (hlocks : meth.locks = false) (hX : XWs D dA s0 σ H) (hS : va_S (xAm s0) s0.heap H locs) {v : Int32} (hdg : decode cc pc = .ok (.ireturn, 1)) : W p l e R s m args below meth c H locs cells slots (XMQ below (XQs D dA s0 xv_i (.inl (v, σ))) args s cells slots (xAm s0)) (F0 m pc ls [.int v]) :=
  x_mono x_ofMQ (W.iret hexec hb hr (fun t ht hW => Or.inl ⟨v, σ, rfl, rfl, by rw [ht]; exact hX, by rw [ht]; exact xo_S hS⟩) hS.2.2 hdg hlocks)
theorem xs_v (hexec : p.tables.exec = Jvm.exec) (hb : c.code = cc) (hr : meth.sig.returnType = none) (hlocks : meth.locks = false) (hX : XWs D dA s0 σ H) (hS : va_S (xAm s0) s0.heap H locs) (hdg : decode cc pc = .ok (.return_, 1)) : W p l e R s m args below meth c H locs cells slots (XMQ below (XQs D dA s0 xv_v (.inl ((), σ))) args s cells slots (xAm s0)) (F0 m pc ls []) :=
  x_mono x_ofMQ (W.vret hexec hb hr (fun t ht hW => Or.inl ⟨(), σ, rfl, rfl, by rw [ht]; exact hX, by rw [ht]; exact xo_S hS⟩) hS.2.2 hdg hlocks)
/-- what a callee threw is thrown on: a method that writes nothing -/
theorem xt_p {α : Type} {vw : α → Option Value} {E : String} {x : Addr} {H1 : Heap} {st : List Value} (hlocks : meth.locks = false) (hnt : c.exceptionTable.isEmpty = true) (hE : XH E x H1 s) (hext : XExt s.heap H1) : XT p l e R s m args below meth c H1 [] cells slots (XMQ below (XQp vw (.inr E)) args s cells slots (fun _ => False)) (F0 m pc ls st) x :=
  x_out hlocks (covers_of_empty hnt _) (fun t ht hW => Or.inr ⟨E, x, rfl, rfl, by rw [ht]; exact hE, by rw [ht]; exact hext⟩) (fun q h => by cases h)
theorem xt_s {α : Type} {vw : α → Option Value} {E : String} {x : Addr} {H1 : Heap} {st : List Value} (hlocks : meth.locks = false) (hnt : c.exceptionTable.isEmpty = true) (hE : XH E x H1 s) (hext : XExt s.heap H1) (hf : ∀ q ∈ locs, xAm s0 q.base) : XT p l e R s m args below meth c H1 locs cells slots (XMQ below (XQs D dA s0 vw (.inr E)) args s cells slots (xAm s0)) (F0 m pc ls st) x :=
  x_out hlocks (covers_of_empty hnt _) (fun t ht hW => Or.inr ⟨E, x, rfl, rfl, by rw [ht]; exact hE, by rw [ht]; exact hext⟩) hf
/-- a W with XMQ at lower counts -/
theorem xw_wid {Qc : Array Value → State → Outcome → State → Prop} {free : Addr → Prop} {g : JFrame} {k n : Nat} (h1 : cells ≤ k) (h2 : slots ≤ n) (kk : W p l e R s m args below meth c H locs k n Q g) : W p l e R s m args below meth c H locs cells slots Q g := W.widen h1 h2 kk
theorem xt_wid {g : JFrame} {x : Addr} {k n : Nat} (h1 : cells ≤ k) (h2 : slots ≤ n) (kk : XT p l e R s m args below meth c H locs k n Q g x) : XT p l e R s m args below meth c H locs cells slots Q g x := fun T hT X => kk T hT (stand_widen X h1 h2)
end XK6
