/-! class and reference, side by side -/
def isum (f : Nat → Int) : Nat → Int
  | 0 => 0
  | n + 1 => isum f n + f n
def gw (σ : XS) (v j : Nat) : Int := (σ.1 16 0 (j % 30)).toInt * (σ.1 28 0 (240 * v + j)).toInt
def gm (σ : XS) (v j : Nat) : Int := gw σ v j * (σ.1 24 0 (8 * v + j / 30)).toInt
def Rel (t : Nat) (σ : XS) : Prop :=
  (σ.1 0 0 6 = σ.1 15 0 6) ∧
  (0 ≤ (σ.1 15 0 6).toInt ∧ (σ.1 15 0 6).toInt ≤ 16) ∧
  (σ.1 0 0 7 = σ.1 15 0 1) ∧
  (σ.1 0 0 8 = σ.1 15 0 2) ∧
  (0 ≤ (σ.1 15 0 1).toInt ∧ (σ.1 15 0 1).toInt ≤ 9999) ∧
  (0 ≤ (σ.1 15 0 2).toInt ∧ (σ.1 15 0 2).toInt ≤ 2) ∧
  (∀ i, i < 30 → σ.1 1 0 i = σ.1 16 0 i) ∧
  (∀ i, i < 30 → 0 ≤ (σ.1 16 0 i).toInt ∧ (σ.1 16 0 i).toInt ≤ 500000) ∧
  (∀ i, i < 30 → σ.1 2 0 i = σ.1 17 0 i) ∧
  (∀ i, i < 30 → σ.1 3 0 i = σ.1 18 0 i) ∧
  (∀ i, i < 30 → 0 ≤ (σ.1 18 0 i).toInt ∧ (σ.1 18 0 i).toInt ≤ 10000) ∧
  (∀ k, k < 6 → ∀ j, j < 240 → σ.1 5 k j = σ.1 29 0 (240 * k + j)) ∧
  (∀ j, j < 1440 → 0 ≤ (σ.1 29 0 j).toInt ∧ (σ.1 29 0 j).toInt ≤ 99) ∧
  (∀ v, v < 16 → ∀ j, j < 240 → σ.1 12 v j = σ.1 28 0 (240 * v + j)) ∧
  (∀ j, j < 3840 → 0 ≤ (σ.1 28 0 j).toInt ∧ (σ.1 28 0 j).toInt ≤ 99) ∧
  (∀ j : Nat, j < 3840 → 240 * (σ.1 15 0 6).toInt ≤ j → σ.1 28 0 j = 0) ∧
  (∀ v, v < 16 → σ.1 9 v 5 = σ.1 19 0 v) ∧
  (∀ v, v < 16 → vp_in (σ.1 19 0 v) 6) ∧
  (∀ v : Nat, v < 16 → (v : Int) < (σ.1 15 0 6).toInt → σ.1 9 v 6 = σ.1 20 0 v) ∧
  (∀ v : Nat, v < 16 → (v : Int) < (σ.1 15 0 6).toInt → 1000 ≤ (σ.1 20 0 v).toInt ∧ (σ.1 20 0 v).toInt ≤ 8000) ∧
  (∀ v, v < 16 → σ.1 9 v 7 = σ.1 21 0 v) ∧
  (∀ v, v < 16 → 0 ≤ (σ.1 21 0 v).toInt ∧ (σ.1 21 0 v).toInt ≤ 20000000) ∧
  (∀ v, v < 16 → σ.1 9 v 8 = σ.1 22 0 v) ∧
  (∀ v, v < 16 → 0 ≤ (σ.1 22 0 v).toInt ∧ (σ.1 22 0 v).toInt ≤ 20000000) ∧
  (∀ v, v < 16 → ∀ c, c < 8 → σ.1 10 v c = σ.1 24 0 (8 * v + c)) ∧
  (∀ j, j < 128 → -2000 ≤ (σ.1 24 0 j).toInt ∧ (σ.1 24 0 j).toInt ≤ 10000) ∧
  (∀ v, v < 16 → ∀ c, c < 8 → σ.1 11 v c = σ.1 25 0 (8 * v + c)) ∧
  (∀ j, j < 128 → nzb (σ.1 25 0 j)) ∧
  (∀ v : Nat, v < 16 → (v : Int) < (σ.1 15 0 6).toInt → ∀ i, i < 30 → σ.1 13 v i = σ.1 26 0 (30 * v + i)) ∧
  (∀ v : Nat, v < 16 → (σ.1 15 0 6).toInt ≤ v → ∀ i, i < 30 → σ.1 13 v i = -1) ∧
  (∀ v, v < 16 → ∀ i, i < 30 → -1 ≤ (σ.1 13 v i).toInt) ∧
  (∀ v : Nat, v < 16 → (v : Int) < (σ.1 15 0 6).toInt → ∀ i, i < 30 → σ.1 14 v i = σ.1 27 0 (30 * v + i)) ∧
  (∀ v : Nat, v < 16 → (σ.1 15 0 6).toInt ≤ v → ∀ i, i < 30 → σ.1 14 v i = 100) ∧
  (∀ v : Nat, v < 16 → (v : Int) < (σ.1 15 0 6).toInt → (σ.1 23 0 v = -1 ∧ σ.1 9 v 9 = -1 ∧ σ.1 9 v 10 = -1) ∨ (((0 ≤ (σ.1 9 v 9).toInt ∧ (σ.1 9 v 9).toInt ≤ 9999) ∧ 0 ≤ (σ.1 9 v 10).toInt ∧ (σ.1 9 v 10).toInt ≤ 2) ∧ σ.1 23 0 v = 3 * σ.1 9 v 9 + σ.1 9 v 10)) ∧
  (∀ v : Nat, v < 16 → (σ.1 15 0 6).toInt ≤ v → σ.1 9 v 9 = -1 ∧ σ.1 9 v 10 = -1) ∧
  (∀ v, v < 16 → (σ.2 9 v 11).toInt = isum (gw σ v) 240) ∧
  (∀ v, v < 16 → (σ.2 9 v 12).toInt = isum (gm σ v) 240) ∧
  ((σ.2 7 0 1).toInt = (σ.1 15 0 18).toInt) ∧
  (0 ≤ (σ.1 15 0 18).toInt ∧ (σ.1 15 0 18).toInt ≤ 2 * t) ∧
  (∀ j, j < 300 → σ.1 8 0 j = σ.1 30 0 j)
theorem Rel.nv {t : Nat} {σ : XS} (h : Rel t σ) : σ.1 0 0 6 = σ.1 15 0 6 := h.1
theorem Rel.nvr {t : Nat} {σ : XS} (h : Rel t σ) : 0 ≤ (σ.1 15 0 6).toInt ∧ (σ.1 15 0 6).toInt ≤ 16 := h.2.1
theorem Rel.dy {t : Nat} {σ : XS} (h : Rel t σ) : σ.1 0 0 7 = σ.1 15 0 1 := h.2.2.1
theorem Rel.sh {t : Nat} {σ : XS} (h : Rel t σ) : σ.1 0 0 8 = σ.1 15 0 2 := h.2.2.2.1
theorem Rel.dyr {t : Nat} {σ : XS} (h : Rel t σ) : 0 ≤ (σ.1 15 0 1).toInt ∧ (σ.1 15 0 1).toInt ≤ 9999 := h.2.2.2.2.1
theorem Rel.shr {t : Nat} {σ : XS} (h : Rel t σ) : 0 ≤ (σ.1 15 0 2).toInt ∧ (σ.1 15 0 2).toInt ≤ 2 := h.2.2.2.2.2.1
theorem Rel.we {t : Nat} {σ : XS} (h : Rel t σ) : ∀ i, i < 30 → σ.1 1 0 i = σ.1 16 0 i := h.2.2.2.2.2.2.1
theorem Rel.wer {t : Nat} {σ : XS} (h : Rel t σ) : ∀ i, i < 30 → 0 ≤ (σ.1 16 0 i).toInt ∧ (σ.1 16 0 i).toInt ≤ 500000 := h.2.2.2.2.2.2.2.1
theorem Rel.le {t : Nat} {σ : XS} (h : Rel t σ) : ∀ i, i < 30 → σ.1 2 0 i = σ.1 17 0 i := h.2.2.2.2.2.2.2.2.1
theorem Rel.st {t : Nat} {σ : XS} (h : Rel t σ) : ∀ i, i < 30 → σ.1 3 0 i = σ.1 18 0 i := h.2.2.2.2.2.2.2.2.2.1
theorem Rel.str {t : Nat} {σ : XS} (h : Rel t σ) : ∀ i, i < 30 → 0 ≤ (σ.1 18 0 i).toInt ∧ (σ.1 18 0 i).toInt ≤ 10000 := h.2.2.2.2.2.2.2.2.2.2.1
theorem Rel.ne {t : Nat} {σ : XS} (h : Rel t σ) : ∀ k, k < 6 → ∀ j, j < 240 → σ.1 5 k j = σ.1 29 0 (240 * k + j) := h.2.2.2.2.2.2.2.2.2.2.2.1
theorem Rel.ner {t : Nat} {σ : XS} (h : Rel t σ) : ∀ j, j < 1440 → 0 ≤ (σ.1 29 0 j).toInt ∧ (σ.1 29 0 j).toInt ≤ 99 := h.2.2.2.2.2.2.2.2.2.2.2.2.1
theorem Rel.co {t : Nat} {σ : XS} (h : Rel t σ) : ∀ v, v < 16 → ∀ j, j < 240 → σ.1 12 v j = σ.1 28 0 (240 * v + j) := h.2.2.2.2.2.2.2.2.2.2.2.2.2.1
theorem Rel.cor {t : Nat} {σ : XS} (h : Rel t σ) : ∀ j, j < 3840 → 0 ≤ (σ.1 28 0 j).toInt ∧ (σ.1 28 0 j).toInt ≤ 99 := h.2.2.2.2.2.2.2.2.2.2.2.2.2.2.1
theorem Rel.coz {t : Nat} {σ : XS} (h : Rel t σ) : ∀ j : Nat, j < 3840 → 240 * (σ.1 15 0 6).toInt ≤ j → σ.1 28 0 j = 0 := h.2.2.2.2.2.2.2.2.2.2.2.2.2.2.2.1
theorem Rel.kd {t : Nat} {σ : XS} (h : Rel t σ) : ∀ v, v < 16 → σ.1 9 v 5 = σ.1 19 0 v := h.2.2.2.2.2.2.2.2.2.2.2.2.2.2.2.2.1
theorem Rel.kdr {t : Nat} {σ : XS} (h : Rel t σ) : ∀ v, v < 16 → vp_in (σ.1 19 0 v) 6 := h.2.2.2.2.2.2.2.2.2.2.2.2.2.2.2.2.2.1
theorem Rel.ba {t : Nat} {σ : XS} (h : Rel t σ) : ∀ v : Nat, v < 16 → (v : Int) < (σ.1 15 0 6).toInt → σ.1 9 v 6 = σ.1 20 0 v := h.2.2.2.2.2.2.2.2.2.2.2.2.2.2.2.2.2.2.1
theorem Rel.bar {t : Nat} {σ : XS} (h : Rel t σ) : ∀ v : Nat, v < 16 → (v : Int) < (σ.1 15 0 6).toInt → 1000 ≤ (σ.1 20 0 v).toInt ∧ (σ.1 20 0 v).toInt ≤ 8000 := h.2.2.2.2.2.2.2.2.2.2.2.2.2.2.2.2.2.2.2.1
theorem Rel.fr {t : Nat} {σ : XS} (h : Rel t σ) : ∀ v, v < 16 → σ.1 9 v 7 = σ.1 21 0 v := h.2.2.2.2.2.2.2.2.2.2.2.2.2.2.2.2.2.2.2.2.1
theorem Rel.frr {t : Nat} {σ : XS} (h : Rel t σ) : ∀ v, v < 16 → 0 ≤ (σ.1 21 0 v).toInt ∧ (σ.1 21 0 v).toInt ≤ 20000000 := h.2.2.2.2.2.2.2.2.2.2.2.2.2.2.2.2.2.2.2.2.2.1
theorem Rel.re {t : Nat} {σ : XS} (h : Rel t σ) : ∀ v, v < 16 → σ.1 9 v 8 = σ.1 22 0 v := h.2.2.2.2.2.2.2.2.2.2.2.2.2.2.2.2.2.2.2.2.2.2.1
theorem Rel.rer {t : Nat} {σ : XS} (h : Rel t σ) : ∀ v, v < 16 → 0 ≤ (σ.1 22 0 v).toInt ∧ (σ.1 22 0 v).toInt ≤ 20000000 := h.2.2.2.2.2.2.2.2.2.2.2.2.2.2.2.2.2.2.2.2.2.2.2.1
theorem Rel.pl {t : Nat} {σ : XS} (h : Rel t σ) : ∀ v, v < 16 → ∀ c, c < 8 → σ.1 10 v c = σ.1 24 0 (8 * v + c) := h.2.2.2.2.2.2.2.2.2.2.2.2.2.2.2.2.2.2.2.2.2.2.2.2.1
theorem Rel.plr {t : Nat} {σ : XS} (h : Rel t σ) : ∀ j, j < 128 → -2000 ≤ (σ.1 24 0 j).toInt ∧ (σ.1 24 0 j).toInt ≤ 10000 := h.2.2.2.2.2.2.2.2.2.2.2.2.2.2.2.2.2.2.2.2.2.2.2.2.2.1
theorem Rel.se {t : Nat} {σ : XS} (h : Rel t σ) : ∀ v, v < 16 → ∀ c, c < 8 → σ.1 11 v c = σ.1 25 0 (8 * v + c) := h.2.2.2.2.2.2.2.2.2.2.2.2.2.2.2.2.2.2.2.2.2.2.2.2.2.2.1
theorem Rel.ser {t : Nat} {σ : XS} (h : Rel t σ) : ∀ j, j < 128 → nzb (σ.1 25 0 j) := h.2.2.2.2.2.2.2.2.2.2.2.2.2.2.2.2.2.2.2.2.2.2.2.2.2.2.2.1
theorem Rel.en {t : Nat} {σ : XS} (h : Rel t σ) : ∀ v : Nat, v < 16 → (v : Int) < (σ.1 15 0 6).toInt → ∀ i, i < 30 → σ.1 13 v i = σ.1 26 0 (30 * v + i) := h.2.2.2.2.2.2.2.2.2.2.2.2.2.2.2.2.2.2.2.2.2.2.2.2.2.2.2.2.1
theorem Rel.enz {t : Nat} {σ : XS} (h : Rel t σ) : ∀ v : Nat, v < 16 → (σ.1 15 0 6).toInt ≤ v → ∀ i, i < 30 → σ.1 13 v i = -1 := h.2.2.2.2.2.2.2.2.2.2.2.2.2.2.2.2.2.2.2.2.2.2.2.2.2.2.2.2.2.1
theorem Rel.enr {t : Nat} {σ : XS} (h : Rel t σ) : ∀ v, v < 16 → ∀ i, i < 30 → -1 ≤ (σ.1 13 v i).toInt := h.2.2.2.2.2.2.2.2.2.2.2.2.2.2.2.2.2.2.2.2.2.2.2.2.2.2.2.2.2.2.1
theorem Rel.bt {t : Nat} {σ : XS} (h : Rel t σ) : ∀ v : Nat, v < 16 → (v : Int) < (σ.1 15 0 6).toInt → ∀ i, i < 30 → σ.1 14 v i = σ.1 27 0 (30 * v + i) := h.2.2.2.2.2.2.2.2.2.2.2.2.2.2.2.2.2.2.2.2.2.2.2.2.2.2.2.2.2.2.2.1
theorem Rel.btz {t : Nat} {σ : XS} (h : Rel t σ) : ∀ v : Nat, v < 16 → (σ.1 15 0 6).toInt ≤ v → ∀ i, i < 30 → σ.1 14 v i = 100 := h.2.2.2.2.2.2.2.2.2.2.2.2.2.2.2.2.2.2.2.2.2.2.2.2.2.2.2.2.2.2.2.2.1
theorem Rel.ck {t : Nat} {σ : XS} (h : Rel t σ) : ∀ v : Nat, v < 16 → (v : Int) < (σ.1 15 0 6).toInt → (σ.1 23 0 v = -1 ∧ σ.1 9 v 9 = -1 ∧ σ.1 9 v 10 = -1) ∨ (((0 ≤ (σ.1 9 v 9).toInt ∧ (σ.1 9 v 9).toInt ≤ 9999) ∧ 0 ≤ (σ.1 9 v 10).toInt ∧ (σ.1 9 v 10).toInt ≤ 2) ∧ σ.1 23 0 v = 3 * σ.1 9 v 9 + σ.1 9 v 10) := h.2.2.2.2.2.2.2.2.2.2.2.2.2.2.2.2.2.2.2.2.2.2.2.2.2.2.2.2.2.2.2.2.2.1
theorem Rel.ckz {t : Nat} {σ : XS} (h : Rel t σ) : ∀ v : Nat, v < 16 → (σ.1 15 0 6).toInt ≤ v → σ.1 9 v 9 = -1 ∧ σ.1 9 v 10 = -1 := h.2.2.2.2.2.2.2.2.2.2.2.2.2.2.2.2.2.2.2.2.2.2.2.2.2.2.2.2.2.2.2.2.2.2.1
theorem Rel.gr {t : Nat} {σ : XS} (h : Rel t σ) : ∀ v, v < 16 → (σ.2 9 v 11).toInt = isum (gw σ v) 240 := h.2.2.2.2.2.2.2.2.2.2.2.2.2.2.2.2.2.2.2.2.2.2.2.2.2.2.2.2.2.2.2.2.2.2.2.1
theorem Rel.mo {t : Nat} {σ : XS} (h : Rel t σ) : ∀ v, v < 16 → (σ.2 9 v 12).toInt = isum (gm σ v) 240 := h.2.2.2.2.2.2.2.2.2.2.2.2.2.2.2.2.2.2.2.2.2.2.2.2.2.2.2.2.2.2.2.2.2.2.2.2.1
theorem Rel.rw {t : Nat} {σ : XS} (h : Rel t σ) : (σ.2 7 0 1).toInt = (σ.1 15 0 18).toInt := h.2.2.2.2.2.2.2.2.2.2.2.2.2.2.2.2.2.2.2.2.2.2.2.2.2.2.2.2.2.2.2.2.2.2.2.2.2.1
theorem Rel.rwr {t : Nat} {σ : XS} (h : Rel t σ) : 0 ≤ (σ.1 15 0 18).toInt ∧ (σ.1 15 0 18).toInt ≤ 2 * t := h.2.2.2.2.2.2.2.2.2.2.2.2.2.2.2.2.2.2.2.2.2.2.2.2.2.2.2.2.2.2.2.2.2.2.2.2.2.2.1
theorem Rel.to {t : Nat} {σ : XS} (h : Rel t σ) : ∀ j, j < 300 → σ.1 8 0 j = σ.1 30 0 j := h.2.2.2.2.2.2.2.2.2.2.2.2.2.2.2.2.2.2.2.2.2.2.2.2.2.2.2.2.2.2.2.2.2.2.2.2.2.2.2
theorem Rel.xok {t : Nat} {σ : XS} (h : Rel t σ) (ht : t ≤ 512) : XOk σ := by
  refine ⟨?_, fun i hi => ?_, ?_, ?_⟩
  · rw [h.nv]
    exact h.nvr
  · rw [h.kd i hi]
    exact h.kdr i hi
  · rw [h.rw]
    exact h.rwr.1
  · rw [h.rw]
    have := h.rwr.2
    omega
theorem Rel.mok {t : Nat} {σ : XS} (h : Rel t σ) (ht : t ≤ 512) : MOk σ := by
  refine ⟨h.nvr, h.kdr, fun i hi hv => ?_, h.rwr.1, ?_⟩
  · have := h.bar i hi hv
    omega
  · have := h.rwr.2
    omega
/-! atoms -/
def inb (x lo hi : Int32) : Prop := lo ≤ x ∧ x ≤ hi
theorem in_p (σ : XS) {x lo hi : Int32} (h : inb x lo hi) : S_MO_in σ x lo hi = 1 := by
  unfold S_MO_in
  rw [if_neg (Int32.not_lt.mpr h.1), if_neg (Int32.not_lt.mpr h.2)]
theorem in_n (σ : XS) {x lo hi : Int32} (h : ¬ inb x lo hi) : S_MO_in σ x lo hi = 0 := by
  unfold S_MO_in
  by_cases h1 : x < lo
  · rw [if_pos h1]
  · rw [if_neg h1]
    by_cases h2 : hi < x
    · rw [if_pos h2]
    · exact absurd ⟨Int32.not_lt.mp h1, Int32.not_lt.mp h2⟩ h
theorem inb_iff {x lo hi : Int32} : inb x lo hi ↔ lo.toInt ≤ x.toInt ∧ x.toInt ≤ hi.toInt := by
  unfold inb
  rw [Int32.le_iff_toInt_le, Int32.le_iff_toInt_le]
def IAE : String := "java/lang/IllegalArgumentException"
def IOB : String := "java/lang/IndexOutOfBoundsException"
def ISE : String := "java/lang/IllegalStateException"
def UOE : String := "java/lang/UnsupportedOperationException"
def ARE : String := "java/lang/ArithmeticException"
theorem rk_p (σ : XS) {x : Int32} (h : inb x 0 5) : S_LC_requireKind σ x = .inl () := by
  unfold S_LC_requireKind
  have := inb_iff.mp h
  have h0 : (0 : Int32).toInt = 0 := rfl
  have h5 : (5 : Int32).toInt = 5 := rfl
  have h6 : (6 : Int32).toInt = 6 := rfl
  rw [if_neg (by rw [Int32.lt_iff_toInt_lt]; omega), if_pos (by rw [Int32.lt_iff_toInt_lt]; omega)]
theorem rk_n (σ : XS) {x : Int32} (h : ¬ inb x 0 5) : S_LC_requireKind σ x = .inr IAE := by
  unfold S_LC_requireKind
  rw [inb_iff] at h
  have h0 : (0 : Int32).toInt = 0 := rfl
  have h5 : (5 : Int32).toInt = 5 := rfl
  have h6 : (6 : Int32).toInt = 6 := rfl
  by_cases c : x < 0
  · rw [if_pos c]
    rfl
  · rw [if_neg c, if_neg (by rw [Int32.lt_iff_toInt_lt] at c ⊢; omega)]
    rfl
theorem rc_p (σ : XS) {x : Int32} (h : inb x 0 7) : S_LC_requireCupboard σ x = .inl () := by
  unfold S_LC_requireCupboard
  have := inb_iff.mp h
  have h0 : (0 : Int32).toInt = 0 := rfl
  have h5 : (7 : Int32).toInt = 7 := rfl
  have h6 : (8 : Int32).toInt = 8 := rfl
  rw [if_neg (by rw [Int32.lt_iff_toInt_lt]; omega), if_pos (by rw [Int32.lt_iff_toInt_lt]; omega)]
theorem rc_n (σ : XS) {x : Int32} (h : ¬ inb x 0 7) : S_LC_requireCupboard σ x = .inr IAE := by
  unfold S_LC_requireCupboard
  rw [inb_iff] at h
  have h0 : (0 : Int32).toInt = 0 := rfl
  have h5 : (7 : Int32).toInt = 7 := rfl
  have h6 : (8 : Int32).toInt = 8 := rfl
  by_cases c : x < 0
  · rw [if_pos c]
    rfl
  · rw [if_neg c, if_neg (by rw [Int32.lt_iff_toInt_lt] at c ⊢; omega)]
    rfl
theorem ri_p (σ : XS) {x : Int32} (h : inb x 0 29) : S_LC_requireItem σ x = .inl () := by
  unfold S_LC_requireItem
  have := inb_iff.mp h
  have h0 : (0 : Int32).toInt = 0 := rfl
  have h5 : (29 : Int32).toInt = 29 := rfl
  have h6 : (30 : Int32).toInt = 30 := rfl
  rw [if_neg (by rw [Int32.lt_iff_toInt_lt]; omega), if_pos (by rw [Int32.lt_iff_toInt_lt]; omega)]
theorem ri_n (σ : XS) {x : Int32} (h : ¬ inb x 0 29) : S_LC_requireItem σ x = .inr IAE := by
  unfold S_LC_requireItem
  rw [inb_iff] at h
  have h0 : (0 : Int32).toInt = 0 := rfl
  have h5 : (29 : Int32).toInt = 29 := rfl
  have h6 : (30 : Int32).toInt = 30 := rfl
  by_cases c : x < 0
  · rw [if_pos c]
    rfl
  · rw [if_neg c, if_neg (by rw [Int32.lt_iff_toInt_lt] at c ⊢; omega)]
    rfl
theorem rr_p (σ : XS) {x lo hi : Int32} (h : inb x lo hi) : S_LC_requireRange σ x lo hi = .inl () := by
  unfold S_LC_requireRange
  rw [if_neg (Int32.not_lt.mpr h.1), if_pos h.2]
theorem rr_n (σ : XS) {x lo hi : Int32} (h : ¬ inb x lo hi) : S_LC_requireRange σ x lo hi = .inr IOB := by
  unfold S_LC_requireRange
  by_cases h1 : x < lo
  · rw [if_pos h1]
    rfl
  · rw [if_neg h1]
    by_cases h2 : x ≤ hi
    · exact absurd ⟨Int32.not_lt.mp h1, h2⟩ h
    · rw [if_neg h2]
      rfl
def isv (σ : XS) (v : Int32) : Prop := 0 ≤ v.toInt ∧ v.toInt < (σ.1 15 0 6).toInt
theorem kv_p {t : Nat} {σ : XS} (h : Rel t σ) {v : Int32} (hv : isv σ v) : S_LC_knownVehicle σ v = .inl v.toNatClampNeg := by
  unfold S_LC_knownVehicle
  have h0 : (0 : Int32).toInt = 0 := rfl
  have := hv.1
  have := hv.2
  rw [if_neg (by rw [Int32.lt_iff_toInt_lt]; omega), if_pos (by rw [Int32.lt_iff_toInt_lt, h.nv]; exact hv.2)]
theorem kv_n {t : Nat} {σ : XS} (h : Rel t σ) {v : Int32} (hv : ¬ isv σ v) : S_LC_knownVehicle σ v = .inr IAE := by
  unfold S_LC_knownVehicle
  have h0 : (0 : Int32).toInt = 0 := rfl
  unfold isv at hv
  by_cases c : v < 0
  · rw [if_pos c]
    rfl
  · rw [if_neg c, if_neg (by rw [Int32.lt_iff_toInt_lt] at c ⊢; rw [h.nv]; omega)]
    rfl
theorem iv_p {σ : XS} (h : 0 ≤ (σ.1 15 0 6).toInt ∧ (σ.1 15 0 6).toInt ≤ 16) {v : Int32} (hv : isv σ v) : S_MO_isVehicle σ v = 1 := by
  unfold S_MO_isVehicle
  refine in_p σ (inb_iff.mpr ?_)
  have h1 : (1 : Int32).toInt = 1 := rfl
  have h0 : (0 : Int32).toInt = 0 := rfl
  rw [i_sub (by omega) (by omega)]
  have := hv.1
  have := hv.2
  omega
theorem iv_n {σ : XS} (h : 0 ≤ (σ.1 15 0 6).toInt ∧ (σ.1 15 0 6).toInt ≤ 16) {v : Int32} (hv : ¬ isv σ v) : S_MO_isVehicle σ v = 0 := by
  unfold S_MO_isVehicle
  refine in_n σ (fun q => ?_)
  have := inb_iff.mp q
  have h1 : (1 : Int32).toInt = 1 := rfl
  have h0 : (0 : Int32).toInt = 0 := rfl
  rw [i_sub (by omega) (by omega)] at this
  unfold isv at hv
  omega
theorem il_p (σ : XS) {x : Int32} (h : inb x 0 20000000) : S_MO_isLimit σ x = 1 := in_p σ h
theorem il_n (σ : XS) {x : Int32} (h : ¬ inb x 0 20000000) : S_MO_isLimit σ x = 0 := in_n σ h
theorem ic_p (σ : XS) {x : Int32} (h : inb x 0 7) : S_MO_isCupboard σ x = 1 := in_p σ h
theorem ic_n (σ : XS) {x : Int32} (h : ¬ inb x 0 7) : S_MO_isCupboard σ x = 0 := in_n σ h
theorem ii_p (σ : XS) {x : Int32} (h : inb x 0 29) : S_MO_isItem σ x = 1 := in_p σ h
theorem ii_n (σ : XS) {x : Int32} (h : ¬ inb x 0 29) : S_MO_isItem σ x = 0 := in_n σ h
theorem xbp_l {α β : Type} {v : α} {k : α → β ⊕ String} : xbp (.inl v) k = k v := rfl
theorem xbp_r {α β : Type} {E : String} {k : α → β ⊕ String} : xbp (.inr E) k = .inr E := rfl
theorem xca_l {α β : Type} {v : α} {k : α → β} {h : String → β} : xca (.inl v) k h = k v := rfl
theorem xca_r {α β : Type} {E : String} {k : α → β} {h : String → β} : xca (.inr E) k h = h E := rfl
theorem i1n0 : ¬ (1 : Int32) = 0 := by decide
theorem thr_1 {σ : XS} {b c d : Int32} : (S_MO_throwing σ 1 b c d).2 = xuI σ 15 0 0 1 := by
  rw [thr_eq]
  rfl
theorem thr_2 {σ : XS} {c d : Int32} : (S_MO_throwing σ 0 1 c d).2 = xuI σ 15 0 0 2 := by
  rw [thr_eq]
  rfl
theorem thr_3 {σ : XS} {d : Int32} : (S_MO_throwing σ 0 0 1 d).2 = xuI σ 15 0 0 3 := by
  rw [thr_eq]
  rfl
theorem thr_4 {σ : XS} : (S_MO_throwing σ 0 0 0 1).2 = xuI σ 15 0 0 4 := by
  rw [thr_eq]
  rfl
theorem thr_0 {σ : XS} : (S_MO_throwing σ 0 0 0 0).2 = xuI σ 15 0 0 0 := by
  rw [thr_eq]
  rfl
theorem Rel.thr {t : Nat} {σ : XS} (h : Rel t σ) (x : Int32) : Rel (t + 1) (xuI σ 15 0 0 x) := ⟨h.nv, h.nvr, h.dy, h.sh, h.dyr, h.shr, h.we, h.wer, h.le, h.st, h.str, h.ne, h.ner, h.co, h.cor, h.coz, h.kd, h.kdr, h.ba, h.bar, h.fr, h.frr, h.re, h.rer, h.pl, h.plr, h.se, h.ser, h.en, h.enz, h.enr, h.bt, h.btz, h.ck, h.ckz, h.gr, h.mo, h.rw, ⟨h.rwr.1, by have := h.rwr.2; show (σ.1 15 0 18).toInt ≤ _; omega⟩, h.to⟩
theorem Rel.out {t : Nat} {σ : XS} (h : Rel t σ) (x : Int64) : Rel t (xuL σ 31 0 0 x) := ⟨h.nv, h.nvr, h.dy, h.sh, h.dyr, h.shr, h.we, h.wer, h.le, h.st, h.str, h.ne, h.ner, h.co, h.cor, h.coz, h.kd, h.kdr, h.ba, h.bar, h.fr, h.frr, h.re, h.rer, h.pl, h.plr, h.se, h.ser, h.en, h.enz, h.enr, h.bt, h.btz, h.ck, h.ckz, h.gr, h.mo, h.rw, h.rwr, h.to⟩
