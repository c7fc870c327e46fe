/-! what keeps the class's own indices in their ranges -/
def XOk (σ : XS) : Prop := (0 ≤ (σ.1 0 0 6).toInt ∧ (σ.1 0 0 6).toInt ≤ 16) ∧ (∀ i, i < 16 → vp_in (σ.1 9 i 5) 6) ∧ 0 ≤ (σ.2 7 0 1).toInt ∧ (σ.2 7 0 1).toInt < 1099511627776
def xbp {α β : Type} (r : α ⊕ String) (k : α → β ⊕ String) : β ⊕ String := match r with
  | .inl v => k v
  | .inr E => .inr E
theorem x_inl {α : Type} {r : α × XS} {v : α} {σ1 : XS} (h : (.inl r : (α × XS) ⊕ String) = .inl (v, σ1)) : v = r.1 ∧ σ1 = r.2 := by
  cases h
  exact ⟨rfl, rfl⟩
theorem x_klt {x M : Int32} {k b : Nat} (hM : M = nI b) (_ : b < 2 ^ 31) (hk : k < 2 ^ 31) (e : x = nI k) (c : ¬ M ≤ x) : k < b := by
  rcases Nat.lt_or_ge k b with q | q
  · exact q
  · exact absurd (by rw [hM, e]; exact nI_le q hk) c
theorem o_nI {x : Int32} {k N : Nat} (e : x = nI k) (h : k < N) (hN : N < 2 ^ 31) : vp_in x N := by rw [e]; exact vp_in_nI h hN
theorem o_cell {a b : Int32} (ha : vp_in a 8) (hb : vp_in b 30) : vp_in (a * 30 + b) 240 := by
  obtain ⟨i, hi, rfl⟩ := vp_in_of ha (by decide)
  obtain ⟨j, hj, rfl⟩ := vp_in_of hb (by decide)
  show vp_in (nI i * nI 30 + nI j) 240
  rw [pk_mul, nI_add]
  exact vp_in_nI (by omega) (by decide)
theorem o_rem {a : Int32} (h : vp_in a 240) : vp_in (a - a / 30 * 30) 30 := by
  obtain ⟨i, hi, rfl⟩ := vp_in_of h (by decide)
  show vp_in (nI i - nI i / nI 30 * nI 30) 30
  rw [pk_rem (by omega) (by decide) (by decide)]
  exact vp_in_nI (Nat.mod_lt _ (by decide)) (by decide)
theorem o_div {a : Int32} (h : vp_in a 240) : vp_in (a / 30) 8 := by
  obtain ⟨i, hi, rfl⟩ := vp_in_of h (by decide)
  show vp_in (nI i / nI 30) 8
  rw [pk_div (by omega) (by decide) (by decide)]
  exact vp_in_nI (by omega) (by decide)
theorem o_known {σ : XS} {v : Int32} (hok : XOk σ) (c1 : ¬ v < 0) (c9 : v < σ.1 0 0 6) : vp_in v 16 := by
  rw [vp_in_iff]
  rw [Int32.lt_iff_toInt_lt] at c1 c9
  have h0 : (0 : Int32).toInt = 0 := rfl
  have := hok.1
  omega
theorem o_vc {σ : XS} {x : Int32} {k : Nat} (hok : XOk σ) (e : x = nI k) (hk : k < 2 ^ 31) (c : ¬ σ.1 0 0 6 ≤ x) : k < 16 := by
  rw [Int32.le_iff_toInt_le, e, nI_toInt hk] at c
  have := hok.1
  omega
theorem o_l0 {b : Int64} (h : ¬ lg_cmp b 0 = 0) : ¬ b = 0 := fun q => h (by rw [q]; rfl)
theorem o_made {x : Int64} (h : 0 ≤ x.toInt) : ∃ k : Nat, k < 100 ∧ (x - x / 100 * 100).toInt32 * 3 = nI (k * 3) := by
  obtain ⟨a, ha, rfl⟩ := pk_lOf (x := x) (by rw [Int64.lt_iff_toInt_lt]; have h0 : (0 : Int64).toInt = 0 := rfl; omega)
  refine ⟨a % 100, Nat.mod_lt _ (by decide), ?_⟩
  show (lN a - lN a / lN 100 * lN 100).toInt32 * nI 3 = _
  rw [pk_lRem ha (by decide) (by decide), lN_i, pk_mul]
theorem o_row0 {x : Int64} (h : 0 ≤ x.toInt) : vp_in ((x - x / 100 * 100).toInt32 * 3) 300 := by
  obtain ⟨k, hk, e⟩ := o_made h
  rw [e]
  exact vp_in_nI (by omega) (by decide)
theorem o_row1 {x : Int64} (h : 0 ≤ x.toInt) : vp_in ((x - x / 100 * 100).toInt32 * 3 + 1) 300 := by
  obtain ⟨k, hk, e⟩ := o_made h
  rw [e]
  show vp_in (nI (k * 3) + nI 1) 300
  rw [nI_add]
  exact vp_in_nI (by omega) (by decide)
theorem o_row2 {x : Int64} (h : 0 ≤ x.toInt) : vp_in ((x - x / 100 * 100).toInt32 * 3 + 2) 300 := by
  obtain ⟨k, hk, e⟩ := o_made h
  rw [e]
  show vp_in (nI (k * 3) + nI 2) 300
  rw [nI_add]
  exact vp_in_nI (by omega) (by decide)
theorem hi_LC : ∀ w ∈ u_ws R_LC F_LC 9, w ∈ xT := by decide +kernel
theorem hi_VE : ∀ w ∈ u_ws R_VE F_VE 13, w ∈ xT := by decide +kernel
theorem hi_RW : ∀ w ∈ u_ws R_RW F_RW 2, w ∈ xT := by decide +kernel
theorem hi_MO : ∀ w ∈ u_ws R_MO F_MO 20, w ∈ xT := by decide +kernel
/-! the throws' atoms -/
def x_r1 : Cond := .isRef (.static "java/lang/Throwable" "UNASSIGNED_STACK" "[Ljava/lang/StackTraceElement;")
def x_r2 : Cond := .isRef (.static "java/lang/Throwable" "SUPPRESSED_SENTINEL" "Ljava/util/List;")
theorem x_r1_in : x_r1 ∈ flatC (Jvm.Cond.and given_1 narrow_1) := by decide +kernel
theorem x_r2_in : x_r2 ∈ flatC (Jvm.Cond.and given_1 narrow_1) := by decide +kernel
theorem x_oa {l : Launch} {s0 : State} {A0 : Array Value} {D : va_G} {dA : Nat → ClassId} {L : List Cond} (h0 : XS0 l s0 A0 D dA) (h : L.all (fun a => decide (a = x_r1) || decide (a = x_r2) || decide (a ∈ lw_tbl)) = true) : ∀ a ∈ L, a.before A0 s0 = true := fun a ha => by
  have h1 := List.all_eq_true.mp h a ha
  simp only [Bool.or_eq_true, decide_eq_true_eq] at h1
  rcases h1 with (rfl | rfl) | h1
  · exact h0.2.2.2.2 _ x_r1_in
  · exact h0.2.2.2.2 _ x_r2_in
  · exact h0.2.1 a h1
theorem oa_IAE {l : Launch} {s0 : State} {A0 : Array Value} {D : va_G} {dA : Nat → ClassId} (h0 : XS0 l s0 A0 D dA) : ∀ a ∈ Bundle.ownAtoms "LoadChecks" 139 "java/lang/IllegalArgumentException" ["java/lang/RuntimeException", "java/lang/Exception"], a.before A0 s0 = true := x_oa h0 (by decide +kernel)
theorem oa_IOB {l : Launch} {s0 : State} {A0 : Array Value} {D : va_G} {dA : Nat → ClassId} (h0 : XS0 l s0 A0 D dA) : ∀ a ∈ Bundle.ownAtoms "LoadChecks" 190 "java/lang/IndexOutOfBoundsException" ["java/lang/RuntimeException", "java/lang/Exception"], a.before A0 s0 = true := x_oa h0 (by decide +kernel)
theorem oa_ISE {l : Launch} {s0 : State} {A0 : Array Value} {D : va_G} {dA : Nat → ClassId} (h0 : XS0 l s0 A0 D dA) : ∀ a ∈ Bundle.ownAtoms "LoadChecks" 88 "java/lang/IllegalStateException" ["java/lang/RuntimeException", "java/lang/Exception"], a.before A0 s0 = true := x_oa h0 (by decide +kernel)
theorem oa_UOE {l : Launch} {s0 : State} {A0 : Array Value} {D : va_G} {dA : Nat → ClassId} (h0 : XS0 l s0 A0 D dA) : ∀ a ∈ Bundle.ownAtoms "LoadChecks" 58 "java/lang/UnsupportedOperationException" ["java/lang/RuntimeException", "java/lang/Exception"], a.before A0 s0 = true := x_oa h0 (by decide +kernel)
theorem oa_ARE {l : Launch} {s0 : State} {A0 : Array Value} {D : va_G} {dA : Nat → ClassId} (h0 : XS0 l s0 A0 D dA) : ∀ a ∈ Bundle.ownAtoms "LoadChecks" 195 "java/lang/ArithmeticException" ["java/lang/RuntimeException", "java/lang/Exception"], a.before A0 s0 = true := x_oa h0 (by decide +kernel)
