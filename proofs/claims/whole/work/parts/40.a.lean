/-! which classes a call may throw -/
def xin {α : Type} (L : List String) (r : α ⊕ String) : Prop := ∀ E, r = .inr E → E ∈ L
theorem xin_inl {α : Type} {L : List String} {v : α} : xin L (.inl v) := fun E h => by cases h
theorem xin_inr {α : Type} {L : List String} {E : String} (h : E ∈ L) : xin (α := α) L (.inr E) := fun E' h' => by cases h'; exact h
theorem xin_bp {α β : Type} {L : List String} {r : α ⊕ String} {k : α → β ⊕ String} (h : xin L r) (hk : ∀ v, xin L (k v)) : xin L (xbp r k) := fun E h' => by
  cases r with
  | inl v => exact hk v E h'
  | inr E' => cases h'; exact h _ rfl
theorem xin_if {α : Type} {L : List String} {c : Prop} [Decidable c] {a b : α ⊕ String} (ha : xin L a) (hb : xin L b) : xin L (if c then a else b) := by
  split
  · exact ha
  · exact hb
def xca {α β : Type} (r : α ⊕ String) (k : α → β) (h : String → β) : β := match r with
  | .inl v => k v
  | .inr E => h E
/-! the handlers -/
theorem x_tab1 {α β : Type} {f : α → β} {L : List α} {a : β} (h : L.map f = [a]) : ∃ e1, L = [e1] ∧ f e1 = a := by
  cases L with
  | nil => cases h
  | cons e1 L =>
    cases L with
    | nil => exact ⟨e1, rfl, (List.cons.inj h).1⟩
    | cons e2 L => cases (List.cons.inj h).2
theorem x_tab {α β : Type} {f : α → β} {L : List α} {a : β} {B : List β} (h : L.map f = a :: B) : ∃ e1 L', L = e1 :: L' ∧ f e1 = a ∧ L'.map f = B := by
  cases L with
  | nil => cases h
  | cons e1 L => exact ⟨e1, L, rfl, (List.cons.inj h).1, (List.cons.inj h).2⟩
def xEx : ExceptionTableEntry → Nat × Nat × Nat × Nat := fun h => (h.startPc, h.endPc, h.handlerPc, h.catchType)
theorem xEx_inv {x : ExceptionTableEntry} {a b c d : Nat} (h : xEx x = (a, b, c, d)) : x.startPc = a ∧ x.endPc = b ∧ x.handlerPc = c ∧ x.catchType = d := by
  unfold xEx at h
  simpa using h
theorem xEx_cov {x : ExceptionTableEntry} {a b c d pc : Nat} (h : xEx x = (a, b, c, d)) (hc : covers (⟨a, b, c, d⟩ : ExceptionTableEntry) pc = true) : covers x pc = true := by
  obtain ⟨h1, h2, h3, h4⟩ := xEx_inv h
  obtain ⟨s, e, hh, t⟩ := x
  subst h1
  subst h2
  subst h3
  subst h4
  exact hc
section XK11
variable {p : Program} {l : Launch} {e : Env} {R : Room} {s : State} {m : MethodId} {args : Array Value} {below : List Frame} {meth : Method} {c : Code} {H : Heap} {locs : List Loc} {cells slots : Nat} {Q : State → Prop} {pc : Nat} {ls : Array Slot} {st : List Value}
/-- caught by the row x of this method's table; the rows ahead of it don't take it -/
theorem x_catch {own name E : String} {q : Addr} (hown : s.vm.findClass own = some m.cls) (pre : List ExceptionTableEntry) (x : ExceptionTableEntry) (suf : List ExceptionTableEntry) (hsplit : c.exceptionTable.toList = pre ++ x :: suf)
    (hpass : ∀ z ∈ pre, z.catchType ≠ 0 ∧ ∃ nm : String, (Cond.classLink own z.catchType nm).before args s = true ∧ va_Nc E nm s) {a b hp t : Nat} (hx : xEx x = (a, b, hp, t)) (hcov : covers (⟨a, b, hp, t⟩ : ExceptionTableEntry) pc = true) (h0 : t ≠ 0)
    (hlink : (Cond.classLink own t name).before args s = true) (hcast : (Cond.castable E name).before args s = true) (hE : XH E q H s)
    (kk : W p l e R s m args below meth c H locs cells slots Q (F0 m hp ls [.ref q])) : XT p l e R s m args below meth c H locs cells slots Q (F0 m pc ls st) q := by
  intro T hT X
  obtain ⟨x1, x2, x3, x4⟩ := xEx_inv hx
  obtain ⟨ce, hcell, hv, hcl⟩ := hE
  have hpl : e.platform.magicAccessors = ({} : Platform).magicAccessors := by rw [X.admits.platform]
  obtain ⟨c3, c4, hc3, hc4, hasg⟩ := Cond.castable_spec hcast
  cases Option.some.inj (hc3.symm.trans hcl)
  obtain ⟨c5, hc5, hcl5⟩ := Cond.classLink_spec hown hlink e.platform hpl
  cases Option.some.inj (hc4.symm.trans hc5)
  obtain ⟨vm', X', st1⟩ := X.thenCaughtThrough q (g := F0 m pc ls st) rfl (Steps.refl _) (by rw [hT]; exact hcell) (by rw [hv]; rfl) (by obtain ⟨k9, h9, -⟩ := Vm.findClass_spec hcl; exact ⟨k9, h9⟩) pre x suf hsplit
    (fun z hz => by
      obtain ⟨hz0, nm, hl1, hn1⟩ := hpass z hz
      obtain ⟨c6, hc6, hcl6⟩ := Cond.classLink_spec hown hl1 e.platform hpl
      obtain ⟨a8, b8, h1, h2, h3⟩ := hn1
      cases Option.some.inj (h1.symm.trans hcl)
      cases Option.some.inj (h2.symm.trans hc6)
      exact Or.inr ⟨hz0, _, hcl6, h3⟩) (xEx_cov hx hcov) (Or.inr ⟨by rw [x4]; exact h0, c4, by rw [x4]; exact hcl5, hasg⟩)
  rw [x3] at st1
  obtain ⟨t1, a1, b1⟩ := kk (T.setVm vm') hT X'
  exact ⟨t1, st1.trans a1, b1⟩
end XK11
theorem xs_Nc {l : Launch} {s0 s : State} {A0 : Array Value} {D : va_G} {dA : Nat → ClassId} (h0 : XS0 l s0 A0 D dA) (hW0 : s0.WarmedH s.vm) {C T : String} (hm : Cond.not (.castable C T) ∈ flatC (Jvm.Cond.and given_1 narrow_1)) : va_Nc C T s := va_Nc.moved hW0.alike (va_Nc.of (h0.2.2.2.2 _ hm))
theorem xs_c {l : Launch} {s0 s : State} {A0 A : Array Value} {D : va_G} {dA : Nat → ClassId} (h0 : XS0 l s0 A0 D dA) (hW0 : s0.WarmedH s.vm) {C T : String} (hm : Cond.castable C T ∈ lw_tbl) : (Cond.castable C T).before A s = true := va_Nw.use rfl (va_Nw.warmC hW0 (va_Nw.of rfl (h0.2.1 _ hm)))

theorem nc_ARE_IAE : Cond.not (.castable "java/lang/ArithmeticException" "java/lang/IllegalArgumentException") ∈ flatC (Jvm.Cond.and given_1 narrow_1) := by decide +kernel
theorem nc_ISE_IAE : Cond.not (.castable "java/lang/IllegalStateException" "java/lang/IllegalArgumentException") ∈ flatC (Jvm.Cond.and given_1 narrow_1) := by decide +kernel
theorem nc_ISE_IOB : Cond.not (.castable "java/lang/IllegalStateException" "java/lang/IndexOutOfBoundsException") ∈ flatC (Jvm.Cond.and given_1 narrow_1) := by decide +kernel
theorem nc_IOB_IAE : Cond.not (.castable "java/lang/IndexOutOfBoundsException" "java/lang/IllegalArgumentException") ∈ flatC (Jvm.Cond.and given_1 narrow_1) := by decide +kernel
theorem nc_UOE_IAE : Cond.not (.castable "java/lang/UnsupportedOperationException" "java/lang/IllegalArgumentException") ∈ flatC (Jvm.Cond.and given_1 narrow_1) := by decide +kernel
theorem nc_UOE_ISE : Cond.not (.castable "java/lang/UnsupportedOperationException" "java/lang/IllegalStateException") ∈ flatC (Jvm.Cond.and given_1 narrow_1) := by decide +kernel
theorem nc_UOE_IOB : Cond.not (.castable "java/lang/UnsupportedOperationException" "java/lang/IndexOutOfBoundsException") ∈ flatC (Jvm.Cond.and given_1 narrow_1) := by decide +kernel
theorem e_requireKind {L : List String} (h : "java/lang/IllegalArgumentException" ∈ L) {σ : XS} {x : Int32} : xin L (S_LC_requireKind σ x) := by
  unfold S_LC_requireKind
  refine xin_if ?_ ?_
  · exact xin_inr h
  · refine xin_if ?_ ?_
    · exact xin_inl
    · exact xin_inr h
theorem e_requireCupboard {L : List String} (h : "java/lang/IllegalArgumentException" ∈ L) {σ : XS} {x : Int32} : xin L (S_LC_requireCupboard σ x) := by
  unfold S_LC_requireCupboard
  refine xin_if ?_ ?_
  · exact xin_inr h
  · refine xin_if ?_ ?_
    · exact xin_inl
    · exact xin_inr h
theorem e_requireItem {L : List String} (h : "java/lang/IllegalArgumentException" ∈ L) {σ : XS} {x : Int32} : xin L (S_LC_requireItem σ x) := by
  unfold S_LC_requireItem
  refine xin_if ?_ ?_
  · exact xin_inr h
  · refine xin_if ?_ ?_
    · exact xin_inl
    · exact xin_inr h
theorem e_requireRange {L : List String} (h : "java/lang/IndexOutOfBoundsException" ∈ L) {σ : XS} {x lo hi : Int32} : xin L (S_LC_requireRange σ x lo hi) := by
  unfold S_LC_requireRange
  refine xin_if ?_ ?_
  · exact xin_inr h
  · refine xin_if ?_ ?_
    · exact xin_inl
    · exact xin_inr h
theorem e_requireLimits {L : List String} (h : "java/lang/IndexOutOfBoundsException" ∈ L) {σ : XS} {x y : Int32} : xin L (S_LC_requireLimits σ x y) := by
  unfold S_LC_requireLimits
  refine xin_bp (e_requireRange h) (fun _ => ?_)
  refine xin_bp (e_requireRange h) (fun _ => ?_)
  exact xin_inl
theorem e_knownVehicle {L : List String} (h : "java/lang/IllegalArgumentException" ∈ L) {σ : XS} {v : Int32} : xin L (S_LC_knownVehicle σ v) := by
  unfold S_LC_knownVehicle
  refine xin_if ?_ ?_
  · exact xin_inr h
  · refine xin_if ?_ ?_
    · exact xin_inl
    · exact xin_inr h
theorem e_requireSoMany {L : List String} (h : "java/lang/IllegalStateException" ∈ L) {σ : XS} {i : Nat} {ce n : Int32} : xin L (S_LC_requireSoMany σ i ce n) := by
  unfold S_LC_requireSoMany
  refine xin_if ?_ ?_
  · exact xin_inl
  · exact xin_inr h
theorem e_requireBearable {L : List String} (h : "java/lang/IllegalStateException" ∈ L) {σ : XS} {i : Nat} {ce n : Int32} : xin L (S_LC_requireBearable σ i ce n) := by
  unfold S_LC_requireBearable
  refine xin_if ?_ ?_
  · exact xin_inr h
  · exact xin_inl
theorem e_requireRoom {L : List String} (h : "java/lang/UnsupportedOperationException" ∈ L) {σ : XS} {i : Nat} {ce n : Int32} : xin L (S_LC_requireRoom σ i ce n) := by
  unfold S_LC_requireRoom
  refine xin_if ?_ ?_
  · exact xin_inl
  · exact xin_inr h
theorem e_LC_vehicle {σ : XS} {k wb fr re : Int32} : xin ["java/lang/IllegalArgumentException", "java/lang/IndexOutOfBoundsException", "java/lang/UnsupportedOperationException"] (S_LC_vehicle σ k wb fr re) := by
  unfold S_LC_vehicle
  refine xin_bp (e_requireKind (by decide)) (fun _ => ?_)
  refine xin_bp (e_requireRange (by decide)) (fun _ => ?_)
  refine xin_bp (e_requireLimits (by decide)) (fun _ => ?_)
  refine xin_if ?_ ?_
  · exact xin_inl
  · exact xin_inr (by decide)
theorem e_LC_limits {σ : XS} {v fr re : Int32} : xin ["java/lang/IllegalArgumentException", "java/lang/IndexOutOfBoundsException"] (S_LC_limits σ v fr re) := by
  unfold S_LC_limits
  refine xin_bp (e_knownVehicle (by decide)) (fun _ => ?_)
  refine xin_bp (e_requireLimits (by decide)) (fun _ => ?_)
  exact xin_inl
theorem e_LC_place {σ : XS} {v cup mm : Int32} : xin ["java/lang/IllegalArgumentException", "java/lang/IndexOutOfBoundsException", "java/lang/IllegalStateException"] (S_LC_place σ v cup mm) := by
  unfold S_LC_place
  refine xin_bp (e_knownVehicle (by decide)) (fun _ => ?_)
  refine xin_bp (e_requireCupboard (by decide)) (fun _ => ?_)
  refine xin_bp (e_requireRange (by decide)) (fun _ => ?_)
  refine xin_if ?_ ?_
  · exact xin_inr (by decide)
  · exact xin_inl
theorem e_LC_item {σ : XS} {it gr le : Int32} : xin ["java/lang/IllegalArgumentException", "java/lang/IndexOutOfBoundsException", "java/lang/IllegalStateException"] (S_LC_item σ it gr le) := by
  unfold S_LC_item
  refine xin_bp (e_requireItem (by decide)) (fun _ => ?_)
  refine xin_bp (e_requireRange (by decide)) (fun _ => ?_)
  refine xin_bp (e_requireRange (by decide)) (fun _ => ?_)
  refine xin_if ?_ ?_
  · exact xin_inl
  · refine xin_if ?_ ?_
    · exact xin_inl
    · exact xin_inr (by decide)
theorem e_LC_list {σ : XS} {k cup it n : Int32} : xin ["java/lang/IllegalArgumentException", "java/lang/IndexOutOfBoundsException"] (S_LC_list σ k cup it n) := by
  unfold S_LC_list
  refine xin_bp (e_requireKind (by decide)) (fun _ => ?_)
  refine xin_bp (e_requireCupboard (by decide)) (fun _ => ?_)
  refine xin_bp (e_requireItem (by decide)) (fun _ => ?_)
  refine xin_bp (e_requireRange (by decide)) (fun _ => ?_)
  exact xin_inl
theorem e_LC_stock {σ : XS} {it n : Int32} : xin ["java/lang/IllegalArgumentException", "java/lang/IndexOutOfBoundsException", "java/lang/UnsupportedOperationException"] (S_LC_stock σ it n) := by
  unfold S_LC_stock
  refine xin_bp (e_requireItem (by decide)) (fun _ => ?_)
  refine xin_bp (e_requireRange (by decide)) (fun _ => ?_)
  refine xin_if ?_ ?_
  · exact xin_inl
  · exact xin_inr (by decide)
theorem e_LC_put {σ : XS} {v cup it n : Int32} : xin ["java/lang/IllegalArgumentException", "java/lang/IndexOutOfBoundsException", "java/lang/IllegalStateException", "java/lang/UnsupportedOperationException"] (S_LC_put σ v cup it n) := by
  unfold S_LC_put
  refine xin_bp (e_knownVehicle (by decide)) (fun _ => ?_)
  refine xin_bp (e_requireCupboard (by decide)) (fun _ => ?_)
  refine xin_bp (e_requireItem (by decide)) (fun _ => ?_)
  refine xin_bp (e_requireRange (by decide)) (fun _ => ?_)
  refine xin_bp (e_requireBearable (by decide)) (fun _ => ?_)
  refine xin_bp (e_requireRoom (by decide)) (fun _ => ?_)
  exact xin_inl
theorem e_LC_use {σ : XS} {v cup it n : Int32} : xin ["java/lang/IllegalArgumentException", "java/lang/IndexOutOfBoundsException", "java/lang/IllegalStateException"] (S_LC_use σ v cup it n) := by
  unfold S_LC_use
  refine xin_bp (e_knownVehicle (by decide)) (fun _ => ?_)
  refine xin_bp (e_requireCupboard (by decide)) (fun _ => ?_)
  refine xin_bp (e_requireItem (by decide)) (fun _ => ?_)
  refine xin_bp (e_requireRange (by decide)) (fun _ => ?_)
  refine xin_bp (e_requireSoMany (by decide)) (fun _ => ?_)
  exact xin_inl
theorem e_L_replace {L : List String} : ∀ (n : Nat) (σ : XS) (i kk : Nat) (x4 x5 : Int32) (k : Nat), x5 = nI k → k + n = 241 → k < 241 → xin L (L_LC_replace n σ i kk x4 x5) := by
  intro n
  induction n with
  | zero => intro σ i kk x4 x5 k _ h1 h2; omega
  | succ n ih =>
    intro σ i kk x4 x5 k e h1 h2
    rw [L_LC_replace]
    refine if h : (240 : Int32) ≤ x5 then ?_ else ?_
    · rw [if_pos h]
      exact xin_inl
    · rw [if_neg h]
      have hk : k < 240 := x_klt (b := 240) rfl (by decide) (by omega) e h
      refine xin_if ?_ ?_
      · exact ih _ _ _ _ _ (k + 1) (by rw [e]; exact nI_1 k) (by omega) (by omega)
      · refine xin_if ?_ ?_
        · exact ih _ _ _ _ _ (k + 1) (by rw [e]; exact nI_1 k) (by omega) (by omega)
        · exact ih _ _ _ _ _ (k + 1) (by rw [e]; exact nI_1 k) (by omega) (by omega)
theorem e_LC_replace {σ : XS} {v : Int32} : xin ["java/lang/IllegalArgumentException"] (S_LC_replace σ v) := by
  unfold S_LC_replace
  refine xin_bp (e_knownVehicle (by decide)) (fun _ => ?_)
  exact e_L_replace _ _ _ _ _ _ 0 nI_0.symm rfl (by decide)
theorem e_LC_swap {σ : XS} {v u cup it n : Int32} : xin ["java/lang/IllegalArgumentException", "java/lang/IndexOutOfBoundsException", "java/lang/IllegalStateException", "java/lang/UnsupportedOperationException"] (S_LC_swap σ v u cup it n) := by
  unfold S_LC_swap
  refine xin_bp (e_knownVehicle (by decide)) (fun _ => ?_)
  refine xin_bp (e_knownVehicle (by decide)) (fun _ => ?_)
  refine xin_if ?_ ?_
  · exact xin_inr (by decide)
  · refine xin_bp (e_requireCupboard (by decide)) (fun _ => ?_)
    refine xin_bp (e_requireItem (by decide)) (fun _ => ?_)
    refine xin_bp (e_requireRange (by decide)) (fun _ => ?_)
    refine xin_bp (e_requireSoMany (by decide)) (fun _ => ?_)
    refine xin_bp (e_requireBearable (by decide)) (fun _ => ?_)
    refine xin_bp (e_requireRoom (by decide)) (fun _ => ?_)
    exact xin_inl
theorem e_LC_ends {σ : XS} {v it d : Int32} : xin ["java/lang/IllegalArgumentException", "java/lang/IndexOutOfBoundsException"] (S_LC_ends σ v it d) := by
  unfold S_LC_ends
  refine xin_bp (e_knownVehicle (by decide)) (fun _ => ?_)
  refine xin_bp (e_requireItem (by decide)) (fun _ => ?_)
  refine xin_bp (e_requireRange (by decide)) (fun _ => ?_)
  exact xin_inl
theorem e_LC_battery {σ : XS} {v it d : Int32} : xin ["java/lang/IllegalArgumentException", "java/lang/IndexOutOfBoundsException"] (S_LC_battery σ v it d) := by
  unfold S_LC_battery
  refine xin_bp (e_knownVehicle (by decide)) (fun _ => ?_)
  refine xin_bp (e_requireItem (by decide)) (fun _ => ?_)
  refine xin_bp (e_requireRange (by decide)) (fun _ => ?_)
  exact xin_inl
theorem e_LC_seal {σ : XS} {v cup b : Int32} : xin ["java/lang/IllegalArgumentException", "java/lang/IllegalStateException"] (S_LC_seal σ v cup b) := by
  unfold S_LC_seal
  refine xin_bp (e_knownVehicle (by decide)) (fun _ => ?_)
  refine xin_bp (e_requireCupboard (by decide)) (fun _ => ?_)
  refine xin_if ?_ ?_
  · refine xin_if ?_ ?_
    · exact xin_inr (by decide)
    · exact xin_inl
  · refine xin_if ?_ ?_
    · exact xin_inr (by decide)
    · exact xin_inl
theorem e_LC_check {σ : XS} {v : Int32} : xin ["java/lang/IllegalArgumentException"] (S_LC_check σ v) := by
  unfold S_LC_check
  refine xin_bp (e_knownVehicle (by decide)) (fun _ => ?_)
  exact xin_inl
theorem e_LC_now {σ : XS} {d sh : Int32} : xin ["java/lang/IndexOutOfBoundsException"] (S_LC_now σ d sh) := by
  unfold S_LC_now
  refine xin_bp (e_requireRange (by decide)) (fun _ => ?_)
  refine xin_if ?_ ?_
  · refine xin_bp (e_requireRange (by decide)) (fun _ => ?_)
    exact xin_inl
  · refine xin_bp (e_requireRange (by decide)) (fun _ => ?_)
    exact xin_inl
theorem e_LC_ready {σ : XS} {v : Int32} : xin ["java/lang/IllegalArgumentException"] (S_LC_ready σ v) := by
  unfold S_LC_ready
  refine xin_bp (e_knownVehicle (by decide)) (fun _ => ?_)
  refine xin_if ?_ ?_
  · refine xin_if ?_ ?_
    · refine xin_if ?_ ?_
      · refine xin_if ?_ ?_
        · refine xin_if ?_ ?_
          · refine xin_if ?_ ?_
            · refine xin_if ?_ ?_
              · exact xin_inl
              · exact xin_inl
            · exact xin_inl
          · exact xin_inl
        · exact xin_inl
      · exact xin_inl
    · exact xin_inl
  · exact xin_inl
theorem e_LC_missing {σ : XS} {v q : Int32} : xin ["java/lang/IllegalArgumentException", "java/lang/IndexOutOfBoundsException"] (S_LC_missing σ v q) := by
  unfold S_LC_missing
  refine xin_bp (e_knownVehicle (by decide)) (fun _ => ?_)
  refine xin_if ?_ ?_
  · refine xin_if ?_ ?_
    · exact xin_inl
    · refine xin_if ?_ ?_
      · exact xin_inl
      · exact xin_inl
  · exact xin_inr (by decide)
theorem e_L_share {L : List String} (hA : "java/lang/ArithmeticException" ∈ L) : ∀ (n : Nat) (σ : XS) (i kk : Nat) (x4 x5 x6 : Int32) (k : Nat), x6 = nI k → k + n = 241 → k < 241 → xin L (L_LC_share n σ i kk x4 x5 x6) := by
  intro n
  induction n with
  | zero => intro σ i kk x4 x5 x6 k _ h1 h2; omega
  | succ n ih =>
    intro σ i kk x4 x5 x6 k e h1 h2
    rw [L_LC_share]
    refine if h : (240 : Int32) ≤ x6 then ?_ else ?_
    · rw [if_pos h]
      refine xin_if ?_ ?_
      · exact xin_inr hA
      · exact xin_inl
    · rw [if_neg h]
      have hk : k < 240 := x_klt (b := 240) rfl (by decide) (by omega) e h
      exact ih _ _ _ _ _ _ (k + 1) (by rw [e]; exact nI_1 k) (by omega) (by omega)
theorem e_LC_share {σ : XS} {v : Int32} : xin ["java/lang/IllegalArgumentException", "java/lang/ArithmeticException"] (S_LC_share σ v) := by
  unfold S_LC_share
  refine xin_bp (e_knownVehicle (by decide)) (fun _ => ?_)
  exact e_L_share (by decide) _ _ _ _ _ _ _ 0 nI_0.symm rfl (by decide)
theorem e_LC_axle {σ : XS} {v q : Int32} : xin ["java/lang/IllegalArgumentException"] (S_LC_axle σ v q) := by
  unfold S_LC_axle
  refine xin_bp (e_knownVehicle (by decide)) (fun _ => ?_)
  refine xin_if ?_ ?_
  · exact xin_inr (by decide)
  · refine xin_if ?_ ?_
    · refine xin_if ?_ ?_
      · refine xin_if ?_ ?_
        · exact xin_inl
        · exact xin_inl
      · refine xin_if ?_ ?_
        · exact xin_inl
        · exact xin_inl
    · exact xin_inr (by decide)
theorem e_LC_row {σ : XS} {a b : Int32} : xin ["java/lang/IllegalArgumentException"] (S_LC_row σ a b) := by
  unfold S_LC_row
  refine xin_if ?_ ?_
  · exact xin_inr (by decide)
  · refine xin_if ?_ ?_
    · exact xin_inr (by decide)
    · refine xin_if ?_ ?_
      · exact xin_inl
      · exact xin_inr (by decide)
theorem e_LC_has {σ : XS} {v cup it : Int32} : xin ["java/lang/IllegalArgumentException"] (S_LC_has σ v cup it) := by
  unfold S_LC_has
  refine xin_bp (e_knownVehicle (by decide)) (fun _ => ?_)
  refine xin_bp (e_requireCupboard (by decide)) (fun _ => ?_)
  refine xin_bp (e_requireItem (by decide)) (fun _ => ?_)
  exact xin_inl
theorem e_LC_stocked {σ : XS} {it : Int32} : xin ["java/lang/IllegalArgumentException"] (S_LC_stocked σ it) := by
  unfold S_LC_stocked
  refine xin_bp (e_requireItem (by decide)) (fun _ => ?_)
  exact xin_inl
