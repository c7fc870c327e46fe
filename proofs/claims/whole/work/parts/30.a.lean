/-! worlds that grow: cells B, B + 1, .. are made one by one -/
def cn (n r : Nat) : Nat := match r with
  | 0 => min 1 (n - 0)
  | 1 => min 1 (n - 1)
  | 2 => min 1 (n - 2)
  | 3 => min 1 (n - 3)
  | 4 => min 1 (n - 4)
  | 5 => min 6 (n - 5)
  | 6 => min 1 (n - 11)
  | 7 => min 1 (n - 12)
  | 8 => min 1 (n - 13)
  | 9 => min 16 ((n - 14 + 5) / 6)
  | 10 => min 16 ((n - 15 + 5) / 6)
  | 11 => min 16 ((n - 16 + 5) / 6)
  | 12 => min 16 ((n - 17 + 5) / 6)
  | 13 => min 16 ((n - 18 + 5) / 6)
  | 14 => min 16 ((n - 19 + 5) / 6)
  | 15 => min 1 (n - 110)
  | 16 => min 1 (n - 111)
  | 17 => min 1 (n - 112)
  | 18 => min 1 (n - 113)
  | 19 => min 1 (n - 114)
  | 20 => min 1 (n - 115)
  | 21 => min 1 (n - 116)
  | 22 => min 1 (n - 117)
  | 23 => min 1 (n - 118)
  | 24 => min 1 (n - 119)
  | 25 => min 1 (n - 120)
  | 26 => min 1 (n - 121)
  | 27 => min 1 (n - 122)
  | 28 => min 1 (n - 123)
  | 29 => min 1 (n - 124)
  | 30 => min 1 (n - 125)
  | 31 => min 1 (n - 126)
  | _ => 0
theorem cn_iff (n i : Nat) : ∀ r : Nat, i < cn n r ↔ i < XN r ∧ XA r i < n
  | 0 => by
    show i < min 1 (n - 0) ↔ i < 1 ∧ 0 < n
    omega
  | 1 => by
    show i < min 1 (n - 1) ↔ i < 1 ∧ 1 < n
    omega
  | 2 => by
    show i < min 1 (n - 2) ↔ i < 1 ∧ 2 < n
    omega
  | 3 => by
    show i < min 1 (n - 3) ↔ i < 1 ∧ 3 < n
    omega
  | 4 => by
    show i < min 1 (n - 4) ↔ i < 1 ∧ 4 < n
    omega
  | 5 => by
    show i < min 6 (n - 5) ↔ i < 6 ∧ 5 + i < n
    omega
  | 6 => by
    show i < min 1 (n - 11) ↔ i < 1 ∧ 11 < n
    omega
  | 7 => by
    show i < min 1 (n - 12) ↔ i < 1 ∧ 12 < n
    omega
  | 8 => by
    show i < min 1 (n - 13) ↔ i < 1 ∧ 13 < n
    omega
  | 9 => by
    show i < min 16 ((n - 14 + 5) / 6) ↔ i < 16 ∧ 14 + 6 * i < n
    omega
  | 10 => by
    show i < min 16 ((n - 15 + 5) / 6) ↔ i < 16 ∧ 15 + 6 * i < n
    omega
  | 11 => by
    show i < min 16 ((n - 16 + 5) / 6) ↔ i < 16 ∧ 16 + 6 * i < n
    omega
  | 12 => by
    show i < min 16 ((n - 17 + 5) / 6) ↔ i < 16 ∧ 17 + 6 * i < n
    omega
  | 13 => by
    show i < min 16 ((n - 18 + 5) / 6) ↔ i < 16 ∧ 18 + 6 * i < n
    omega
  | 14 => by
    show i < min 16 ((n - 19 + 5) / 6) ↔ i < 16 ∧ 19 + 6 * i < n
    omega
  | 15 => by
    show i < min 1 (n - 110) ↔ i < 1 ∧ 110 < n
    omega
  | 16 => by
    show i < min 1 (n - 111) ↔ i < 1 ∧ 111 < n
    omega
  | 17 => by
    show i < min 1 (n - 112) ↔ i < 1 ∧ 112 < n
    omega
  | 18 => by
    show i < min 1 (n - 113) ↔ i < 1 ∧ 113 < n
    omega
  | 19 => by
    show i < min 1 (n - 114) ↔ i < 1 ∧ 114 < n
    omega
  | 20 => by
    show i < min 1 (n - 115) ↔ i < 1 ∧ 115 < n
    omega
  | 21 => by
    show i < min 1 (n - 116) ↔ i < 1 ∧ 116 < n
    omega
  | 22 => by
    show i < min 1 (n - 117) ↔ i < 1 ∧ 117 < n
    omega
  | 23 => by
    show i < min 1 (n - 118) ↔ i < 1 ∧ 118 < n
    omega
  | 24 => by
    show i < min 1 (n - 119) ↔ i < 1 ∧ 119 < n
    omega
  | 25 => by
    show i < min 1 (n - 120) ↔ i < 1 ∧ 120 < n
    omega
  | 26 => by
    show i < min 1 (n - 121) ↔ i < 1 ∧ 121 < n
    omega
  | 27 => by
    show i < min 1 (n - 122) ↔ i < 1 ∧ 122 < n
    omega
  | 28 => by
    show i < min 1 (n - 123) ↔ i < 1 ∧ 123 < n
    omega
  | 29 => by
    show i < min 1 (n - 124) ↔ i < 1 ∧ 124 < n
    omega
  | 30 => by
    show i < min 1 (n - 125) ↔ i < 1 ∧ 125 < n
    omega
  | 31 => by
    show i < min 1 (n - 126) ↔ i < 1 ∧ 126 < n
    omega
  | _ + 32 => ⟨fun h => absurd h (Nat.not_lt_zero _), fun h => absurd h.1 (Nat.not_lt_zero _)⟩
theorem cn_inj (n : Nat) : XInj XA (cn n) := fun r i r' i' h h' e => xInj r i r' i' ((cn_iff n i r).mp h).1 ((cn_iff n i' r').mp h').1 e
theorem cn_mk {n r i : Nat} (h1 : i < XN r) (h2 : XA r i < n) : i < cn n r := (cn_iff n i r).mpr ⟨h1, h2⟩
theorem xp_push {D : va_G} {B n n' : Nat} {E E' : Nat → Nat → va_E} {H H1 : Heap} (hX : XW D vwCl XA (cn n) B E H) (hz : H.size = B + n) (hn' : n' = n + 1) {r i : Nat} (hi : i < XN r) (ha : XA r i = n) {e : va_E} (he : E' r i = e) (hnew : va_at D vwCl (B + XA r i, e) H1) (ho : ∀ q, q < H.size → H1[q]? = H[q]?) (hoth : ∀ r' i', i' < cn n r' → E' r' i' = E r' i') : XW D vwCl XA (cn n') B E' H1 := by
  intro r' i' hi'
  subst hn'
  obtain ⟨h1, h2⟩ := (cn_iff _ _ _).mp hi'
  by_cases h : XA r' i' < n
  · have h3 := cn_mk h1 h
    rw [hoth _ _ h3]
    exact (hX r' i' h3).kept (ho _ (by show B + XA r' i' < H.size; omega))
  · obtain ⟨rfl, rfl⟩ := xInj r' i' r i h1 hi (by omega)
    rw [he]
    exact hnew
def XK (D : va_G) (s0 : State) (n : Nat) (E : Nat → Nat → va_E) (H : Heap) (locs : List Loc) : Prop := XW D vwCl XA (cn n) (xB s0) E H ∧ H.size = xB s0 + n ∧ va_S (xAm s0) s0.heap H locs
def XPk (D : va_G) (s0 : State) (n : Nat) (E : Nat → Nat → va_E) (av : List Value) : Array Value → State → Prop := fun v U => v = av.toArray ∧ (XW D vwCl XA (cn n) (xB s0) E U.heap ∧ U.heap.size = xB s0 + n) ∧ XO s0 U U.heap
theorem xpk_blind {D : va_G} {s0 : State} {n : Nat} {E : Nat → Nat → va_E} {av : List Value} : FrameBlind (XPk D s0 n E av) := fun _ _ _ _ h => ⟨h.1, h.2.1, h.2.2⟩
def XQk (D : va_G) (s0 : State) (n : Nat) (E : Nat → Nat → va_E) : Array Value → State → Outcome → State → Prop := fun _ _ o t => o = .returned none ∧ (XW D vwCl XA (cn n) (xB s0) E t.heap ∧ t.heap.size = xB s0 + n) ∧ XExt s0.heap t.heap
theorem va_S.grow {A : Nat → Prop} {H0 H H1 : Heap} {locs : List Loc} (h : va_S A H0 H locs) (hz : H.size ≤ H1.size) (ho : ∀ q, q < H.size → H1[q]? = H[q]?) : va_S A H0 H1 locs := ⟨Nat.le_trans h.1 hz, fun q hq hA => (ho q (Nat.lt_of_lt_of_le hq h.1)).trans (h.2.1 q hq hA), h.2.2⟩
theorem x_arrV {c : ClassId} {N : Nat} {f g : Nat → Value} (h : ∀ j, j < N → f j = g j) : arrV c N f = arrV c N g := by
  unfold arrV
  congr 1
  exact congrArg _ (funext fun j => h j.val j.isLt)
theorem x_outer (c : ClassId) (N h0 : Nat) : ∀ i : Nat, Jvm.Free.Multi.outerC c N h0 i = arrV c N (fun j => if j < i then .ref (h0 + 1 + j) else .null)
  | 0 => by
    show ({ cls := c, slots := Array.replicate N .null, vm := .none } : Cell) = _
    rw [arrV_new]
    refine congrArg (arrV c N) (funext fun j => ?_)
    simp
  | i + 1 => by
    show (Jvm.Free.Multi.outerC c N h0 i).setSlot i (.ref (h0 + 1 + i)) = _
    rw [x_outer c N h0 i, arrV_store]
    refine congrArg (arrV c N) (funext fun j => ?_)
    by_cases e : j = i
    · subst e
      simp [updV]
    · by_cases h : j < i
      · simp [updV, e, h, Nat.lt_succ_of_lt h]
      · simp [updV, e, h, show ¬ j < i + 1 by omega]
section XK8
variable {p : Program} {l : Launch} {e : Env} {R : Room} {s s0 : State} {m : MethodId} {args : Array Value} {below : List Frame} {meth : Method} {c : Code} {H : Heap} {locs : List Loc} {cells slots : Nat} {Q : State → Prop} {D : va_G}
variable {cc : ByteArray} {pc : Nat} {ls : Array Slot} {rest : List Value} {tys : List (ClassId × FieldType)} {n : Nat} {E : Nat → Nat → va_E}
theorem xk_newa (hexec : p.tables.exec = Jvm.exec) (hb : c.code = cc) {atype : ArrayType} {ty : FieldType} (harr : (Cond.arrayClass ty).before args s = true) (hK : va_K D vwCl tys s) (t0 : Nat) {cA : ClassId} (ht : tys[t0]? = some (cA, ty)) (hty : newarray.typeOf atype = ty) (hRA : va_RA s cA ty → s.vm.findClass ("[" ++ ty.toString) = some cA)
    (h : XK D s0 n E H locs) (r i n' : Nat) (hn' : n' = n + 1) (hi : i < XN r) (ha : XA r i = n) {z : Int32} {N : Nat} {a0 : vp_A} (ha0 : ∀ cA, vp_cell cA a0 = arrV cA N (fun _ => defaultValue ty)) (hn : ¬ z < 0) (hN : z.toNatClampNeg = N) (hbytes : N * componentBytes ty ≤ 536870912) (hcells : cells + 1 ≤ R.cells) (hslots : slots + N ≤ R.slots)
    {E' : Nat → Nat → va_E} (he : E' r i = .inl (cA, a0)) (hoth : ∀ r' i', i' < cn n r' → E' r' i' = E r' i') (hdg : decode cc pc = .ok (.newarray atype, 2))
    (kk : ∀ H1, XK D s0 n' E' H1 locs → W p l e R s m args below meth c H1 locs (cells + 1) (slots + N) Q (F0 m (pc + 2) ls (.ref (xB s0 + XA r i) :: rest))) : W p l e R s m args below meth c H locs cells slots Q (F0 m pc ls (.int z :: rest)) := by
  subst hty
  have hz : H.size = xB s0 + XA r i := by rw [ha]; exact h.2.1
  refine va_newaK hexec hb harr rfl hdg rfl hn hN hbytes hcells hslots hz fun H1 cB e1 z1 o1 hAr hNm => ?_
  have hc : cB = cA := Option.some.inj (hNm.symm.trans (hRA (hK.2 t0 _ ht).2))
  subst hc
  rw [← hz] at o1
  refine kk H1 ⟨xp_push h.1 h.2.1 hn' hi ha he (show H1[xB s0 + XA r i]? = some (vp_cell _ _) by rw [ha0]; exact e1) o1 hoth, by rw [z1, hn', ha]; omega, h.2.2.grow (by rw [z1, hz]; omega) o1⟩
theorem xk_new (hexec : p.tables.exec = Jvm.exec) (hb : c.code = cc) {own C : String} {T : u_T} {N ci index : Nat} {Ts : List Cond} (hts : ∀ w ∈ Ts, w.before args s = true) (hin : ∀ w ∈ u_ws C T N, w ∈ Ts) (ty : Nat → FieldType) (hty : ∀ k, k < N → parseFieldDescriptor (T k).2.2.1 = some (ty k)) (hown : s.vm.findClass own = some m.cls) (hcl : (Cond.classLink own index C).before args s = true) (hinst : (Cond.instantiable C N).before args s = true) (hini : (Cond.initialized C).before args s = true)
    (hK : va_K D vwCl tys s) (h : XK D s0 n E H locs) (r i n' : Nat) (hn' : n' = n + 1) (hi : i < XN r) (ha : XA r i = n) (hc : vwCl[ci]? = some (C, T, N)) {fs : List Value} (hfs : ∀ j, j < N → defaultValue (ty j) = vp_V fs j) (hcells : cells + 1 ≤ R.cells) (hslots : slots + N ≤ R.slots)
    {E' : Nat → Nat → va_E} (he : E' r i = .inr (ci, fs)) (hoth : ∀ r' i', i' < cn n r' → E' r' i' = E r' i') (hdg : decode cc pc = .ok (.new index, 3))
    (kk : ∀ H1, XK D s0 n' E' H1 locs → W p l e R s m args below meth c H1 locs (cells + 1) (slots + N) Q (F0 m (pc + 3) ls (.ref (xB s0 + XA r i) :: rest))) : W p l e R s m args below meth c H locs cells slots Q (F0 m pc ls rest) := by
  have hKn := hK.1 ci _ hc
  have hz : H.size = xB s0 + XA r i := by rw [ha]; exact h.2.1
  refine W.newcK hexec hb hown hcl hinst hini rfl hdg hcells hslots hKn.2.1 hz fun H1 kC hkC e1 z1 o1 => ?_
  rw [← hz] at o1
  exact kk H1 ⟨xp_push h.1 h.2.1 hn' hi ha he ⟨_, hc, (u_born ty hts hin hKn hkC e1 hty).to hfs⟩ o1 hoth, by rw [z1, hn', ha]; omega, h.2.2.grow (by rw [z1, hz]; omega) o1⟩
theorem xk_anew (hexec : p.tables.exec = Jvm.exec) (hb : c.code = cc) {own C : String} {index : Nat} (hown : s.vm.findClass own = some m.cls) (hclink : (Cond.classLink own index C).before args s = true) (hover : (Cond.arrayOver (.object C)).before args s = true) (hK : va_K D vwCl tys s) (t0 : Nat) {cA : ClassId} (ht : tys[t0]? = some (cA, .object C))
    (h : XK D s0 n E H locs) (r i n' : Nat) (hn' : n' = n + 1) (hi : i < XN r) (ha : XA r i = n) {z : Int32} {N : Nat} (hn : ¬ z < 0) (hN : z.toNatClampNeg = N) (hbytes : N * 4 ≤ 536870912) (hcells : cells + 1 ≤ R.cells) (hslots : slots + N ≤ R.slots)
    {E' : Nat → Nat → va_E} (he : E' r i = .inl (cA, N, .inr (.inr (.inr (.inr (fun _ => none)))))) (hoth : ∀ r' i', i' < cn n r' → E' r' i' = E r' i') (hdg : decode cc pc = .ok (.anewarray index, 3))
    (kk : ∀ H1, XK D s0 n' E' H1 locs → W p l e R s m args below meth c H1 locs (cells + 1) (slots + N) Q (F0 m (pc + 3) ls (.ref (xB s0 + XA r i) :: rest))) : W p l e R s m args below meth c H locs cells slots Q (F0 m pc ls (.int z :: rest)) := by
  subst hN
  have hz : H.size = xB s0 + XA r i := by rw [ha]; exact h.2.1
  refine W.anew hexec hb hown hclink hover rfl hdg rfl hn hbytes hcells hslots fun cB kA comp f1 f2 f3 f4 => ?_
  obtain ⟨kA', comp', k1, k2, k3, k4⟩ := (hK.2 t0 _ ht).2
  have hc : cB = cA := Option.some.inj (f1.symm.trans k4)
  subst hc
  generalize hH1 : H.push ({ cls := cB, slots := Array.replicate z.toNatClampNeg .null, vm := .none } : Cell) = H1
  have z1 : H1.size = H.size + 1 := by rw [← hH1, Array.size_push]
  have e1 : H1[H.size]? = some (arrV cB z.toNatClampNeg (fun _ => .null)) := by rw [← hH1, Array.getElem?_push_size, ← arrV_new]
  have o1 : ∀ q : Nat, q < H.size → H1[q]? = H[q]? := fun q hq => by rw [← hH1, Array.getElem?_push, if_neg (Nat.ne_of_lt hq)]
  have kk' := kk H1 ⟨xp_push h.1 h.2.1 hn' hi ha he (show H1[xB s0 + XA r i]? = some (vp_cell _ _) by rw [vp_cell_q, ← hz]; exact e1) o1 hoth, by rw [z1, hn', h.2.1]; omega, h.2.2.grow (by rw [z1]; omega) o1⟩
  rw [← hz] at kk'
  exact kk'
theorem xk_mna (hexec : p.tables.exec = Jvm.exec) (hb : c.code = cc) {own : String} {index : Nat} (hown : s.vm.findClass own = some m.cls) (hclink : (Cond.classLink own index ("[" ++ (FieldType.array .int).toString)).before args s = true) (hover : (Cond.arrayOver (.array .int)).before args s = true) (harr : (Cond.arrayClass .int).before args s = true)
    (hK : va_K D vwCl tys s) (t0 t1 : Nat) {cI cA : ClassId} (ht0 : tys[t0]? = some (cI, .int)) (ht1 : tys[t1]? = some (cA, .array .int)) (h : XK D s0 4 E H locs) (hcells : cells + 7 ≤ R.cells) (hslots : slots + 1446 ≤ R.slots)
    {E' : Nat → Nat → va_E} (he : E' 4 0 = .inl (cA, 6, .inr (.inr (.inr (.inr fun j => some (xB s0 + XA 5 j)))))) (he5 : ∀ j, j < 6 → E' 5 j = .inl (cI, 240, .inl fun _ => 0)) (hoth : ∀ r' i', i' < cn 4 r' → E' r' i' = E r' i') (hdg : decode cc pc = .ok (.multianewarray index 2, 4))
    (kk : ∀ H1, XK D s0 11 E' H1 locs → W p l e R s m args below meth c H1 locs (cells + 7) (slots + 1446) Q (F0 m (pc + 4) ls (.ref (xB s0 + XA 4 0) :: rest))) : W p l e R s m args below meth c H locs cells slots Q (F0 m pc ls (.int 240 :: .int 6 :: rest)) := by
  intro T hT Xs
  obtain ⟨vm₁, cB, comp, -, fA, fC, -, -, X', step⟩ := Xs.multianewarray2F hexec hown hclink hover harr (g := F0 m pc ls (.int 240 :: .int 6 :: rest)) rfl (by rw [hb]; exact hdg) rfl (by decide) (by decide) (by decide) (by decide) (by decide) (by decide) (by decide) hcells hslots
  have e1 : comp = cI := Option.some.inj (fC.symm.trans (hK.2 t0 _ ht0).2)
  have e2 : cB = cA := Option.some.inj (fA.symm.trans (hK.2 t1 _ ht1).2)
  subst e1
  subst e2
  have n6 : (6 : Int32).toNatClampNeg = 6 := rfl
  have n240 : (240 : Int32).toNatClampNeg = 240 := rfl
  rw [n6, n240] at X' step
  generalize hF : Jvm.Free.Multi.fill (T.setVm vm₁) cB comp 6 240 (defaultValue .int) 6 = F at X' step
  have hTh : (T.setVm vm₁).heap = H := hT
  obtain ⟨f1, f2, -, -⟩ := Jvm.Free.Multi.fill_facts (T.setVm vm₁) cB comp 6 240 (defaultValue .int) 6
  rw [hF, hTh] at f1 f2
  have hold : ∀ x : Nat, x < H.size → F.heap[x]? = H[x]? := fun x hx => by
    have := Jvm.Free.Multi.fill_old (T.setVm vm₁) cB comp 6 240 (defaultValue .int) (a := x) (by rw [hTh]; exact hx) 6
    rw [hF, hTh] at this
    exact this
  have hrow : ∀ j : Nat, j < 6 → F.heap[H.size + 1 + j]? = some (vp_cell comp (240, .inl fun _ => 0)) := fun j hj => by
    have := Jvm.Free.Multi.fill_inner (T.setVm vm₁) cB comp 6 240 (defaultValue .int) 6 j hj
    rw [hF, hTh] at this
    rw [this, vp_cell_i, ← arrV_new]
    rfl
  have hout : F.heap[H.size]? = some (vp_cell cB (6, .inr (.inr (.inr (.inr fun j => some (xB s0 + XA 5 j)))))) := by
    rw [f2, x_outer, vp_cell_q]
    refine congrArg some ?_
    refine x_arrV fun j hj => ?_
    rw [if_pos hj, h.2.1]
    show Value.ref (xB s0 + 4 + 1 + j) = Value.ref (xB s0 + (5 + j))
    exact congrArg Value.ref (by omega : (xB s0 + 4 + 1 + j : Nat) = xB s0 + (5 + j))
  have hsz : F.heap.size = xB s0 + 11 := by rw [f1, h.2.1]
  refine Exists.elim (kk F.heap ⟨?_, hsz, h.2.2.grow (by rw [hsz, h.2.1]; omega) hold⟩ F rfl X') fun t ht => ⟨t, step t (by rw [hT, h.2.1]; exact ht.1), ht.2⟩
  intro r i hi
  obtain ⟨h1, h2⟩ := (cn_iff _ _ _).mp hi
  by_cases h3 : XA r i < 4
  · have h4 := cn_mk h1 h3
    rw [hoth _ _ h4]
    exact (h.1 r i h4).kept (hold _ (by show xB s0 + XA r i < H.size; rw [h.2.1]; omega))
  · by_cases h4 : XA r i = 4
    · obtain ⟨rfl, rfl⟩ := xInj r i 4 0 h1 (by decide) h4
      rw [he]
      have e4 : H.size = xB s0 + XA 4 0 := h.2.1
      show F.heap[xB s0 + XA 4 0]? = _
      rw [← e4]
      exact hout
    · obtain ⟨j, hj, e5⟩ : ∃ j, j < 6 ∧ XA r i = XA 5 j := ⟨XA r i - 5, by omega, by show _ = 5 + _; omega⟩
      obtain ⟨rfl, rfl⟩ := xInj r i 5 j h1 hj e5
      rw [he5 i hj]
      show F.heap[xB s0 + (5 + i)]? = _
      have := hrow i hj
      rw [h.2.1] at this
      rw [show xB s0 + (5 + i) = xB s0 + 4 + 1 + i by omega]
      exact this
end XK8
section XK9
variable {p : Program} {l : Launch} {e : Env} {R : Room} {s : State} {m : MethodId} {args : Array Value} {below : List Frame} {meth : Method} {c : Code} {H : Heap} {locs : List Loc} {cells slots : Nat} {Q : State → Prop}
variable {cc : ByteArray} {pc : Nat} {ls : Array Slot} {rest : List Value} {D : va_G} {cl : List vw_C} {A : Nat → Prop} {tys : List (ClassId × FieldType)} {H0 : Heap} {adr : Nat → Nat → Nat} {cnt : Nat → Nat} {B : Nat} {ent : Nat → Nat → va_E}
theorem xw_putF (hexec : p.tables.exec = Jvm.exec) (hb : c.code = cc) {own ref C : String} {T : u_T} {N ci index : Nat} {Ts : List Cond} (hts : ∀ w ∈ Ts, w.before args s = true) (hin : ∀ w ∈ u_ws C T N, w ∈ Ts) (ty0 : Nat → FieldType) (hty : ∀ k, k < N → parseFieldDescriptor (T k).2.2.1 = some (ty0 k)) (hnm : ∀ a, a < N → ∀ b, b < N → a ≠ b → (T a).2.1 ≠ (T b).2.1) (hown : s.vm.findClass own = some m.cls) (hK : va_K D cl tys s) (hinj : XInj adr cnt) (hX : XW D cl adr cnt B ent H) (hS0 : va_S A H0 H locs) (r i : Nat) (hA : A (B + adr r i)) (hi : i < cnt r) {fs : List Value} (he : ent r i = .inr (ci, fs)) (hc : cl[ci]? = some (C, T, N)) (k : Nat) (hk : k < N) (hlink : (Cond.fieldLink own index ref (T k).2.1 (T k).2.2.1).before args s = true) (hsame : (T k).1 = ref) (hfin : (T k).2.2.2 = true) (hin2 : meth.name = "<init>") (hdecl : (T k).1 = own) {ty : FieldType} {v : Value} (hd : parseFieldDescriptor (T k).2.2.1 = some ty) (hn : narrow ty v = v) (hfit : fits ty v = true) (hl : k < fs.length)
    {ent' : Nat → Nat → va_E} (he' : ent' r i = .inr (ci, fs.set k v)) (ho : ∀ r' i', ¬ (r' = r ∧ i' = i) → ent' r' i' = ent r' i') (hdg : decode cc pc = .ok (.putfield index, 3))
    (kk : ∀ (H1 : Heap) (locs1 : List Loc), XW D cl adr cnt B ent' H1 → H1.size = H.size → va_S A H0 H1 locs1 → W p l e R s m args below meth c H1 locs1 cells slots Q (F0 m (pc + 3) ls rest)) : W p l e R s m args below meth c H locs cells slots Q (F0 m pc ls (v :: .ref (B + adr r i) :: rest)) := by
  have hap := va_apart (own := own) hts hin ty0 hty hnm hK hc
  obtain ⟨r0, h1, cell, q1, q2, q3, q4⟩ := xw_one hX hi he 0 _ rfl
  have hr : r0 = (C, T, N) := Option.some.inj (h1.symm.trans hc)
  subst hr
  obtain ⟨hS, hfc, kC, hkC, hkind⟩ := hK.1 ci _ hc
  obtain ⟨cf, kf, fi, f, hif, hsl⟩ := hS k hk
  have hlay := hts _ (hin _ (u_in_lay hk))
  unfold u_lay at hlay
  rw [if_pos hfin] at hlay
  have hst := (u_facts hfc hkC (u_lays hts hin hk) hif).1
  have hcf : m.cls = cf := by
    obtain ⟨_, _, c', _, _, _, -, -, hf', -, -, -, hown2, -⟩ := Cond.laysFinal_spec hlay
    have e1 : c' = cf := by have := hif.symm.trans hf'; simp at this; exact this.1.symm
    rw [hdecl] at hown2
    rw [← e1]; exact Option.some.inj (hown.symm.trans hown2)
  have h6 := u_fits hfc hkC hkind (Or.inr hlay) hif hd hn hfit
  refine W.putFinK hexec hb hown hlink (hsame ▸ hif) hst hcf hin2 (by rw [q2]; exact h6) q1 q3 (by rw [hsl]; exact k2_hasslot (q4 k hk)) rfl rfl hdg fun H' e1 e2 e3 => ?_
  rw [hsl] at e1 ⊢
  exact kk H' _ (xw_upd hX hinj hi he' ⟨_, hc, t_OB.to (V := updV (vp_V fs) k v) ⟨_, e1, q2, q3, t_set q4 hap hk v⟩ (fun j _ => vp_updV_set hl v j)⟩ e3 ho) e2 (hS0.put e2 e3 hA)
theorem xw_putS (hexec : p.tables.exec = Jvm.exec) (hb : c.code = cc) {own ref C : String} {T : u_T} {N ci index : Nat} {Ts : List Cond} (hts : ∀ w ∈ Ts, w.before args s = true) (hin : ∀ w ∈ u_ws C T N, w ∈ Ts) (ty0 : Nat → FieldType) (hty : ∀ k, k < N → parseFieldDescriptor (T k).2.2.1 = some (ty0 k)) (hnm : ∀ a, a < N → ∀ b, b < N → a ≠ b → (T a).2.1 ≠ (T b).2.1) (hown : s.vm.findClass own = some m.cls) (hK : va_K D cl tys s) (hinj : XInj adr cnt) (hX : XW D cl adr cnt B ent H) (hS0 : va_S A H0 H locs) (r i : Nat) (hA : A (B + adr r i)) (hi : i < cnt r) {fs : List Value} (he : ent r i = .inr (ci, fs)) (hc : cl[ci]? = some (C, T, N)) (k : Nat) (hk : k < N) (hlink : (Cond.fieldLink own index ref (T k).2.1 (T k).2.2.1).before args s = true) (hsame : (T k).1 = ref) (hfin : (T k).2.2.2 = false) {v : Value} (hn : narrow (ty0 k) v = v) (hfit : fits (ty0 k) v = true) (hl : k < fs.length)
    {ent' : Nat → Nat → va_E} (he' : ent' r i = .inr (ci, fs.set k v)) (ho : ∀ r' i', ¬ (r' = r ∧ i' = i) → ent' r' i' = ent r' i') (hdg : decode cc pc = .ok (.putfield index, 3))
    (kk : ∀ (H1 : Heap) (locs1 : List Loc), XW D cl adr cnt B ent' H1 → H1.size = H.size → va_S A H0 H1 locs1 → W p l e R s m args below meth c H1 locs1 cells slots Q (F0 m (pc + 3) ls rest)) : W p l e R s m args below meth c H locs cells slots Q (F0 m pc ls (v :: .ref (B + adr r i) :: rest)) := by
  have hap := va_apart (own := own) hts hin ty0 hty hnm hK hc
  obtain ⟨r0, h1, cell, q1, q2, q3, q4⟩ := xw_one hX hi he 0 _ rfl
  have hr : r0 = (C, T, N) := Option.some.inj (h1.symm.trans hc)
  subst hr
  obtain ⟨hS, hfc, kC, hkC, hkind⟩ := hK.1 ci _ hc
  obtain ⟨cf, kf, fi, f, hif, hsl⟩ := hS k hk
  have hlay := hts _ (hin _ (u_in_lay hk))
  unfold u_lay at hlay
  rw [if_neg (by rw [hfin]; decide)] at hlay
  have hst := (u_facts hfc hkC (u_lays hts hin hk) hif).1
  have h6 := u_store hfc hkC hkind hlay hif (hty k hk) hn hfit
  refine W.putK hexec hb (f := f) ⟨hown, hlink, ⟨_, _, _, hsame ▸ hif⟩, hst⟩ (by rw [q2]; exact h6) q1 q3 (by rw [hsl]; exact k2_hasslot (q4 k hk)) rfl rfl hdg fun H' e1 e2 e3 => ?_
  rw [hsl] at e1 ⊢
  exact kk H' _ (xw_upd hX hinj hi he' ⟨_, hc, t_OB.to (V := updV (vp_V fs) k v) ⟨_, e1, q2, q3, t_set q4 hap hk v⟩ (fun j _ => vp_updV_set hl v j)⟩ e3 ho) e2 (hS0.put e2 e3 hA)
theorem xw_aast (hexec : p.tables.exec = Jvm.exec) (hb : c.code = cc) (hK : va_K D cl tys s) (hinj : XInj adr cnt) (hX : XW D cl adr cnt B ent H) (hS : va_S A H0 H locs) (r i r1 i1 : Nat) (hA : A (B + adr r i)) (hi : i < cnt r) (hi1 : i1 < cnt r1) (t0 : Nat) {cA : ClassId} {q : vw_C} {ci n : Nat} {vs : List Value} {f : Nat → Option Nat} (he : ent r i = .inl (cA, n, .inr (.inr (.inr (.inr f))))) (ht : tys[t0]? = some (cA, .object q.1)) (hv : ent r1 i1 = .inr (ci, vs)) (hc : cl[ci]? = some q) {j : Int32} (hin : vp_in j n)
    {ent' : Nat → Nat → va_E} (he' : ent' r i = .inl (cA, n, .inr (.inr (.inr (.inr (va_up f j.toNatClampNeg (some (B + adr r1 i1)))))))) (ho : ∀ r' i', ¬ (r' = r ∧ i' = i) → ent' r' i' = ent r' i') (hdg : decode cc pc = .ok (.aastore, 1))
    (kk : ∀ (H1 : Heap) (locs1 : List Loc), XW D cl adr cnt B ent' H1 → H1.size = H.size → va_S A H0 H1 locs1 → W p l e R s m args below meth c H1 locs1 cells slots Q (F0 m (pc + 1) ls rest)) : W p l e R s m args below meth c H locs cells slots Q (F0 m pc ls (.ref (B + adr r1 i1) :: .int j :: .ref (B + adr r i) :: rest)) := by
  have hlt : j.toNatClampNeg < n := Nat.not_le.mp fun q => hin (Or.inr q)
  have h0 : ¬ j < 0 := fun q => hin (Or.inl q)
  obtain ⟨r', hr', cellV, g1, g2, g3, -⟩ := xw_one hX hi1 hv 0 _ rfl
  have hcls := (hK.1 ci q hc).2
  obtain ⟨kA, comp, k1, k2, k3, -⟩ := (hK.2 t0 _ ht).2
  have hcomp : comp = D.1 ci := Option.some.inj (k3.symm.trans hcls.1)
  subst hcomp
  obtain ⟨kC, hkC, -⟩ := hcls.2
  refine W.aast hexec hb (xw_one hX hi he 0 _ rfl) (fun q h => by cases h) (fun h => by cases h) k1 k2 rfl hkC ⟨h0, by show _ < (arrV _ _ _).slots.size; rw [arrV_size]; exact hlt⟩ g1 (fun q h => by rw [g3] at h; cases h) (by rw [g2]; exact hkC) (by rw [g2]; exact va_assign hcls) rfl rfl hdg fun H1 e z oq => ?_
  refine kk H1 _ (xw_upd hX hinj hi he' ?_ oq ho) z (hS.put z oq hA)
  show H1[B + adr r i]? = some (vp_cell _ _)
  rw [e]
  rw [vp_cell_q, vp_cell_q, arrV_store]
  congr 2
  funext q
  by_cases hq : q = j.toNatClampNeg
  · subst hq
    simp [updV, va_up, va_rf]
  · simp [updV, va_up, hq]
theorem xw_alen (hexec : p.tables.exec = Jvm.exec) (hb : c.code = cc) (hK : va_K D cl tys s) (hX : XW D cl adr cnt B ent H) {r i : Nat} (hi : i < cnt r) (t0 : Nat) {cA : ClassId} {x : vp_A} (he : ent r i = .inl (cA, x)) {ty : FieldType} (ht : tys[t0]? = some (cA, ty)) {v : Int32} (hv : Int32.ofNat x.1 = v) (hdg : decode cc pc = .ok (.arraylength, 1))
    (kk : W p l e R s m args below meth c H locs cells slots Q (F0 m (pc + 1) ls (.int v :: rest))) : W p l e R s m args below meth c H locs cells slots Q (F0 m pc ls (.ref (B + adr r i) :: rest)) :=
  va_alen hexec hb hK (xw_one hX hi he) 0 t0 rfl ht hv hdg kk
theorem xw_iastS (hexec : p.tables.exec = Jvm.exec) (hb : c.code = cc) (hK : va_K D cl tys s) (hinj : XInj adr cnt) (hX : XW D cl adr cnt B ent H) (hS : va_S A H0 H locs) {r i : Nat} (hA : A (B + adr r i)) (hi : i < cnt r) (t0 : Nat) {cA : ClassId} {n : Nat} {f : Nat → Int32} (he : ent r i = .inl (cA, n, .inl f)) (ht : tys[t0]? = some (cA, .int)) {j x : Int32} (hin : vp_in j n)
    {ent' : Nat → Nat → va_E} (he' : ent' r i = .inl (cA, n, .inl (upd f j.toNatClampNeg x))) (ho : ∀ r' i', ¬ (r' = r ∧ i' = i) → ent' r' i' = ent r' i') (hdg : decode cc pc = .ok (.iastore, 1))
    (kk : ∀ (H1 : Heap) (locs1 : List Loc), XW D cl adr cnt B ent' H1 → H1.size = H.size → va_S A H0 H1 locs1 → W p l e R s m args below meth c H1 locs1 cells slots Q (F0 m (pc + 1) ls rest)) : W p l e R s m args below meth c H locs cells slots Q (F0 m pc ls (.int x :: .int j :: .ref (B + adr r i) :: rest)) := by
  have hP := xw_one hX hi he 0 _ rfl
  refine W.iast hexec hb hP ((hK.2 t0 _ ht).1 n (fun j => .int (f j))) (fun q => by cases q) (by show ¬ (j < 0 ∨ (arrV _ _ _).slots.size ≤ _); rw [arrV_size]; exact hin) rfl rfl hdg fun H1 e z oq => ?_
  refine kk H1 _ (xw_upd hX hinj hi he' ?_ oq ho) z (hS.put z oq hA)
  show H1[B + adr r i]? = some (vp_cell _ _)
  rw [e]
  rw [vp_cell_i, vp_cell_i, arrV_store]
  congr 2
  funext q
  by_cases hq : q = j.toNatClampNeg
  · subst hq
    simp [updV, upd]
  · simp [updV, upd, hq]
end XK9
section XK10
variable {p : Program} {l : Launch} {e : Env} {R : Room} {s s0 : State} {m : MethodId} {args : Array Value} {below : List Frame} {meth : Method} {c : Code} {H : Heap} {locs : List Loc} {cells slots : Nat} {Q : State → Prop} {D : va_G}
variable {cc : ByteArray} {pc : Nat} {ls : Array Slot} {n : Nat} {E : Nat → Nat → va_E}
theorem xk_v (hexec : p.tables.exec = Jvm.exec) (hb : c.code = cc) (hr : meth.sig.returnType = none) (hlocks : meth.locks = false) (h : XK D s0 n E H locs) (hdg : decode cc pc = .ok (.return_, 1)) : W p l e R s m args below meth c H locs cells slots (XMQ below (XQk D s0 n E) args s cells slots (xAm s0)) (F0 m pc ls []) :=
  x_mono x_ofMQ (W.vret hexec hb hr (fun t ht hW => ⟨rfl, by rw [ht]; exact ⟨h.1, h.2.1⟩, by rw [ht]; exact xo_S h.2.2⟩) h.2.2.2.2 hdg hlocks)
theorem xc_k {n' : Nat} {E' : Nat → Nat → va_E} {y : MethodName} {av rest st0 : List Value} {ig : Instr} {rm : Room} {mc ms maxL : Nat} {cw : Cond}
    (I : XInv p l e R s m args below meth c H locs cells slots (F0 m pc ls st0) rest y av) (hM : XMet l y [cw] rm (XPk D s0 n E av) (XQk D s0 n' E') mc ms (xAm s0))
    (hcw : ∀ (a : Array Value) (U : State), s.WarmedH U.vm → cw.before a U = true ∧ XCode y maxL U) (hini : (Cond.initialized y.cls).before args s = true)
    (hr : rm.cells = mc ∧ rm.slots = ms ∧ rm.frames + 1 ≤ R.frames ∧ 8 + (maxL + 11) + rm.locals ≤ R.locals)
    (hsize : ls.size = c.maxLocals) (hdg : decode c.code pc = .ok (ig, 3)) (hWt : (rest.map fun v => v.category).sum ≤ 8) (hroom : cells + mc ≤ R.cells ∧ slots + ms ≤ R.slots)
    (h : XK D s0 n E H locs) (hW0 : s0.WarmedH s.vm)
    (kr : ∀ (H1 : Heap) (locs1 : List Loc), XK D s0 n' E' H1 locs1 → W p l e R s m args below meth c H1 locs1 (cells + mc) (slots + ms) Q (F0 m (pc + 3) ls rest)) :
    W p l e R s m args below meth c H locs cells slots Q (F0 m pc ls st0) := by
  refine x_go I (x_back hM xpk_blind hr.1 hr.2.1 hr.2.2.1 hr.2.2.2 (fun w hw a' U hW => ?_) (fun U mk hW hn => ?_) (fun a' U hW => x_word rfl rfl hW hini)) hsize hdg hWt hroom (fun U hU hW => ⟨rfl, by rw [hU]; exact ⟨h.1, h.2.1⟩, State.WarmedH.trans hW0 hW, by rw [hU]; exact xo_S h.2.2⟩) ?_ ?_
  · cases List.mem_singleton.mp hw
    exact (hcw a' U hW).1
  · obtain ⟨mk', methY, cY, h1, h2, h3, h4, -⟩ := (hcw #[] U hW).2
    cases hn.symm.trans h1
    exact ⟨methY, cY, h2, h3, h4⟩
  · intro v st₀ t L h1 h2 h3 hq hL
    obtain ⟨e2, e3, e4⟩ := hq
    cases e2
    refine kr t.heap (locs ++ L) ⟨e3.1, e3.2, e4.1, fun q hq _ => e4.2 q hq, fun q hq => ?_⟩
    rcases List.mem_append.mp hq with g | g
    · exact h.2.2.2.2 q g
    · exact hL q g
  · intro x st₀ t L h1 h2 h3 hq hL
    obtain ⟨e2, -⟩ := hq
    cases e2
end XK10
