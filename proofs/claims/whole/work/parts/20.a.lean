/-! the reference's ranges and ends -/
def nzb (x : Int32) : Prop := x = 0 ∨ x = 1
theorem nz {x : Int32} (h : nzb x) : narrow .boolean (.int x) = .int x := by
  rcases h with rfl | rfl <;> rfl
def MOk (σ : XS) : Prop := (0 ≤ (σ.1 15 0 6).toInt ∧ (σ.1 15 0 6).toInt ≤ 16) ∧ (∀ i, i < 16 → vp_in (σ.1 19 0 i) 6) ∧ (∀ i : Nat, i < 16 → (i : Int) < (σ.1 15 0 6).toInt → 0 < (σ.1 20 0 i).toInt) ∧ 0 ≤ (σ.1 15 0 18).toInt ∧ (σ.1 15 0 18).toInt < 1073741824
section XK7
variable {p : Program} {l : Launch} {e : Env} {R : Room} {s s0 : State} {m : MethodId} {args : Array Value} {below : List Frame} {meth : Method} {c : Code} {H : Heap} {locs : List Loc} {cells slots : Nat} {Q : State → Prop} {D : va_G} {dA : Nat → ClassId} {σ : XS} {cc : ByteArray} {pc : Nat} {ls : Array Slot}
theorem xs_z (hexec : p.tables.exec = Jvm.exec) (hb : c.code = cc) (hr : meth.sig.returnType = some .boolean) (hlocks : meth.locks = false) {v : Int32} (hn : narrow .boolean (.int v) = .int v) (hX : XWs D dA s0 σ H) (hS : va_S (xAm s0) s0.heap H locs) (hdg : decode cc pc = .ok (.ireturn, 1)) : W p l e R s m args below meth c H locs cells slots (XMQ below (XQs D dA s0 xv_i (.inl (v, σ))) args s cells slots (xAm s0)) (F0 m pc ls [.int v]) :=
  x_mono x_ofMQ (W.zret hexec hb hr hn (fun t ht hW => Or.inl ⟨v, σ, rfl, rfl, by rw [ht]; exact hX, by rw [ht]; exact xo_S hS⟩) hS.2.2 hdg hlocks)
theorem xs_l (hexec : p.tables.exec = Jvm.exec) (hb : c.code = cc) (hr : meth.sig.returnType = some .long) (hlocks : meth.locks = false) (hX : XWs D dA s0 σ H) (hS : va_S (xAm s0) s0.heap H locs) {v : Int64} (hdg : decode cc pc = .ok (.lreturn, 1)) : W p l e R s m args below meth c H locs cells slots (XMQ below (XQs D dA s0 xv_l (.inl (v, σ))) args s cells slots (xAm s0)) (F0 m pc ls [.long v]) :=
  x_mono x_ofMQ (W.lret hexec hb hr (fun t ht hW => Or.inl ⟨v, σ, rfl, rfl, by rw [ht]; exact hX, by rw [ht]; exact xo_S hS⟩) hS.2.2 hdg hlocks)
end XK7
theorem o_c3 {v c i : Int32} (hv : vp_in v 16) (hc : vp_in c 8) (hi : vp_in i 30) : vp_in (240 * v + 30 * c + i) 3840 := by
  obtain ⟨a, ha, rfl⟩ := vp_in_of hv (by decide)
  obtain ⟨b, hb, rfl⟩ := vp_in_of hc (by decide)
  obtain ⟨d, hd, rfl⟩ := vp_in_of hi (by decide)
  show vp_in (nI 240 * nI a + nI 30 * nI b + nI d) 3840
  rw [pk_mul, pk_mul, nI_add, nI_add]
  exact vp_in_nI (by omega) (by decide)
theorem o_n3 {v c i : Int32} (hv : vp_in v 6) (hc : vp_in c 8) (hi : vp_in i 30) : vp_in (240 * v + 30 * c + i) 1440 := by
  obtain ⟨a, ha, rfl⟩ := vp_in_of hv (by decide)
  obtain ⟨b, hb, rfl⟩ := vp_in_of hc (by decide)
  obtain ⟨d, hd, rfl⟩ := vp_in_of hi (by decide)
  show vp_in (nI 240 * nI a + nI 30 * nI b + nI d) 1440
  rw [pk_mul, pk_mul, nI_add, nI_add]
  exact vp_in_nI (by omega) (by decide)
theorem o_c2 {v k : Int32} (hv : vp_in v 16) (hk : vp_in k 240) : vp_in (240 * v + k) 3840 := by
  obtain ⟨a, ha, rfl⟩ := vp_in_of hv (by decide)
  obtain ⟨b, hb, rfl⟩ := vp_in_of hk (by decide)
  show vp_in (nI 240 * nI a + nI b) 3840
  rw [pk_mul, nI_add]
  exact vp_in_nI (by omega) (by decide)
theorem o_n2 {v k : Int32} (hv : vp_in v 6) (hk : vp_in k 240) : vp_in (240 * v + k) 1440 := by
  obtain ⟨a, ha, rfl⟩ := vp_in_of hv (by decide)
  obtain ⟨b, hb, rfl⟩ := vp_in_of hk (by decide)
  show vp_in (nI 240 * nI a + nI b) 1440
  rw [pk_mul, nI_add]
  exact vp_in_nI (by omega) (by decide)
theorem o_30 {v k : Int32} (hv : vp_in v 16) (hk : vp_in k 30) : vp_in (30 * v + k) 480 := by
  obtain ⟨a, ha, rfl⟩ := vp_in_of hv (by decide)
  obtain ⟨b, hb, rfl⟩ := vp_in_of hk (by decide)
  show vp_in (nI 30 * nI a + nI b) 480
  rw [pk_mul, nI_add]
  exact vp_in_nI (by omega) (by decide)
theorem o_128 {v k : Int32} (hv : vp_in v 128) (hk : vp_in k 30) : vp_in (30 * v + k) 3840 := by
  obtain ⟨a, ha, rfl⟩ := vp_in_of hv (by decide)
  obtain ⟨b, hb, rfl⟩ := vp_in_of hk (by decide)
  show vp_in (nI 30 * nI a + nI b) 3840
  rw [pk_mul, nI_add]
  exact vp_in_nI (by omega) (by decide)
theorem o_8 {v k : Int32} (hv : vp_in v 16) (hk : vp_in k 8) : vp_in (8 * v + k) 128 := by
  obtain ⟨a, ha, rfl⟩ := vp_in_of hv (by decide)
  obtain ⟨b, hb, rfl⟩ := vp_in_of hk (by decide)
  show vp_in (nI 8 * nI a + nI b) 128
  rw [pk_mul, nI_add]
  exact vp_in_nI (by omega) (by decide)
theorem o_kind {σ : XS} {v : Int32} (h : ∀ i, i < 16 → vp_in (σ.1 19 0 i) 6) (hv : vp_in v 16) : vp_in (σ.1 19 0 v.toNatClampNeg) 6 := h _ (vp_lt hv)
theorem o_tell {x : Int32} (h : 0 ≤ x.toInt) : ∃ k : Nat, k < 100 ∧ (3 : Int32) * (x - x / 100 * 100) = nI (3 * k) := by
  obtain ⟨a, ha, rfl⟩ := nI_of (x := x) (by rw [Int32.lt_iff_toInt_lt]; have h0 : (0 : Int32).toInt = 0 := rfl; omega)
  refine ⟨a % 100, Nat.mod_lt _ (by decide), ?_⟩
  show nI 3 * (nI a - nI a / nI 100 * nI 100) = _
  rw [pk_rem ha (by decide) (by decide), pk_mul]
theorem o_tell0 {x : Int32} (h : 0 ≤ x.toInt) : vp_in ((3 : Int32) * (x - x / 100 * 100)) 300 := by
  obtain ⟨k, hk, e⟩ := o_tell h
  rw [e]
  exact vp_in_nI (by omega) (by decide)
theorem o_tell1 {x : Int32} (h : 0 ≤ x.toInt) : vp_in ((3 : Int32) * (x - x / 100 * 100) + 1) 300 := by
  obtain ⟨k, hk, e⟩ := o_tell h
  rw [e]
  show vp_in (nI (3 * k) + nI 1) 300
  rw [nI_add]
  exact vp_in_nI (by omega) (by decide)
theorem o_tell2 {x : Int32} (h : 0 ≤ x.toInt) : vp_in ((3 : Int32) * (x - x / 100 * 100) + 2) 300 := by
  obtain ⟨k, hk, e⟩ := o_tell h
  rw [e]
  show vp_in (nI (3 * k) + nI 2) 300
  rw [nI_add]
  exact vp_in_nI (by omega) (by decide)
