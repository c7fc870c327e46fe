theorem thr_z {σ : XS} : (S_MO_throwing σ 0 0 0 0).1 = 0 := rfl
def thr_c (a b c d : Int32) : Int32 := if a = 0 then if b = 0 then if c = 0 then if d = 0 then 0 else 4 else 3 else 2 else 1
theorem thr_eq (σ : XS) (a b c d : Int32) : S_MO_throwing σ a b c d = (if thr_c a b c d = 0 then 0 else 1, xuI σ 15 0 0 (thr_c a b c d)) := by
  unfold S_MO_throwing thr_c
  by_cases ha : a = 0
  · rw [if_pos ha, if_pos ha]
    by_cases hb : b = 0
    · rw [if_pos hb, if_pos hb]
      by_cases hc : c = 0
      · rw [if_pos hc, if_pos hc]
        by_cases hd : d = 0
        · rw [if_pos hd, if_pos hd]
          rfl
        · rw [if_neg hd, if_neg hd]
          rfl
      · rw [if_neg hc, if_neg hc]
        rfl
    · rw [if_neg hb, if_neg hb]
      rfl
  · rw [if_neg ha, if_neg ha]
    rfl
theorem thr_ne {σ : XS} {a b c d : Int32} (h : ¬ thr_c a b c d = 0) : ¬ (S_MO_throwing σ a b c d).1 = 0 := by
  rw [thr_eq]
  show ¬ (if thr_c a b c d = 0 then (0 : Int32) else 1) = 0
  rw [if_neg h]
  decide
theorem thr_n1 {σ : XS} {a b c d : Int32} (h : ¬ a = 0) : ¬ (S_MO_throwing σ a b c d).1 = 0 := thr_ne (by
  unfold thr_c
  rw [if_neg h]
  decide)
theorem thr_n2 {σ : XS} {a b c d : Int32} (h : ¬ b = 0) : ¬ (S_MO_throwing σ a b c d).1 = 0 := thr_ne (by
  unfold thr_c
  rw [if_neg h]
  split <;> decide)
theorem thr_n3 {σ : XS} {a b c d : Int32} (h : ¬ c = 0) : ¬ (S_MO_throwing σ a b c d).1 = 0 := thr_ne (by
  unfold thr_c
  rw [if_neg h]
  split
  · split <;> decide
  · decide)
theorem thr_n4 {σ : XS} {a b c d : Int32} (h : ¬ d = 0) : ¬ (S_MO_throwing σ a b c d).1 = 0 := thr_ne (by
  unfold thr_c
  rw [if_neg h]
  split
  · split
    · split <;> decide
    · decide
  · decide)
theorem nz_in (σ : XS) (x lo hi : Int32) : nzb (S_MO_in σ x lo hi) := by
  unfold S_MO_in
  repeat' split
  all_goals first | exact Or.inl rfl | exact Or.inr rfl
