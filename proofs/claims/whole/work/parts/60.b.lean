/-! the class's calls leave the reference's cells -/
def KPm (σ σ' : XS) : Prop := ∀ q, 15 ≤ q → σ'.1 q = σ.1 q
theorem kp_0 {σ : XS} : KPm σ σ := fun _ _ => rfl
theorem kp_I {σ s : XS} {r i j : Nat} {v : Int32} (h : KPm σ s) (hr : r < 15) : KPm σ (xuI s r i j v) := fun q hq => by
  funext i' j'
  rw [xu_o _ _ _ _ _ (by omega), h q hq]
theorem kp_L {σ s : XS} {r i j : Nat} {v : Int64} (h : KPm σ s) : KPm σ (xuL s r i j v) := h
theorem kp_load {σ s : XS} {i : Nat} {ce n w : Int32} (h : KPm σ s) : KPm σ (S_VE_load s i ce n w).2 := kp_L (kp_L (kp_I h (by decide)))
theorem kp_add {σ s : XS} {a b n : Int32} (h : KPm σ s) : KPm σ (S_RW_add s a b n).2 := kp_L (kp_I (kp_I (kp_I h (by decide)) (by decide)) (by decide))
def kpr {α : Type} (σ : XS) (r : (α × XS) ⊕ String) : Prop := ∀ v σ', r = .inl (v, σ') → KPm σ σ'
theorem kpr_inr {α : Type} {σ : XS} {E : String} : kpr (α := α) σ (.inr E) := fun v σ' h => by cases h
theorem kpr_inl {α : Type} {σ s : XS} {v : α} (h : KPm σ s) : kpr σ (.inl (v, s)) := fun v' σ' e => by cases e; exact h
theorem kpr_bp {α β : Type} {σ : XS} {r : β ⊕ String} {k : β → (α × XS) ⊕ String} (h : ∀ v, kpr σ (k v)) : kpr σ (xbp r k) := fun v σ' e => by
  cases r with
  | inl w => exact h w v σ' e
  | inr E => cases e
theorem kpr_if {α : Type} {σ : XS} {c : Prop} [Decidable c] {a b : (α × XS) ⊕ String} (ha : kpr σ a) (hb : kpr σ b) : kpr σ (if c then a else b) := by
  split
  · exact ha
  · exact hb
theorem mok_kp {σ σ' : XS} (h : MOk σ) (k : KPm σ σ') : MOk σ' := by
  unfold MOk
  rw [k 15 (by decide), k 19 (by decide), k 20 (by decide)]
  exact h
theorem kpr_L_replace : ∀ (n : Nat) (σ : XS) (i kk : Nat) (x4 x5 : Int32), kpr σ (L_LC_replace n σ i kk x4 x5) := by
  intro n
  induction n with
  | zero => intro σ i kk x4 x5; exact kpr_inr
  | succ n ih =>
    intro σ i kk x4 x5
    rw [L_LC_replace]
    refine kpr_if (kpr_inl kp_0) ?_
    refine kpr_if (ih _ _ _ _ _) ?_
    refine kpr_if (ih _ _ _ _ _) ?_
    intro v σ' e q hq
    rw [ih _ _ _ _ _ v σ' e q hq]
    exact kp_I (kp_load kp_0) (by decide) q hq
theorem kpc_vehicle {σ : XS} {k wb fr re : Int32} : kpr σ (S_LC_vehicle σ k wb fr re) := by
  unfold S_LC_vehicle
  refine kpr_bp (fun _ => ?_)
  refine kpr_bp (fun _ => ?_)
  refine kpr_bp (fun _ => ?_)
  refine kpr_if ?_ ?_
  · exact kpr_inl (kp_I (kp_I (kp_I (kp_I (kp_I kp_0 (by decide)) (by decide)) (by decide)) (by decide)) (by decide))
  · exact kpr_inr
theorem kp_vehicle {σ : XS} {k wb fr re : Int32} : KPm σ (S_LW_vehicle σ k wb fr re).2 := by
  unfold S_LW_vehicle
  cases hc : S_LC_vehicle σ k wb fr re with
  | inl v => exact kpc_vehicle v.1 v.2 hc
  | inr E => exact kp_0
theorem kpc_limits {σ : XS} {v fr re : Int32} : kpr σ (S_LC_limits σ v fr re) := by
  unfold S_LC_limits
  refine kpr_bp (fun _ => ?_)
  refine kpr_bp (fun _ => ?_)
  exact kpr_inl (kp_I (kp_I kp_0 (by decide)) (by decide))
theorem kp_limits {σ : XS} {v fr re : Int32} : KPm σ (S_LW_limits σ v fr re).2 := by
  unfold S_LW_limits
  cases hc : S_LC_limits σ v fr re with
  | inl v => exact kpc_limits v.1 v.2 hc
  | inr E => exact kp_0
theorem kpc_place {σ : XS} {v cup mm : Int32} : kpr σ (S_LC_place σ v cup mm) := by
  unfold S_LC_place
  refine kpr_bp (fun _ => ?_)
  refine kpr_bp (fun _ => ?_)
  refine kpr_bp (fun _ => ?_)
  refine kpr_if ?_ ?_
  · exact kpr_inr
  · exact kpr_inl (kp_I kp_0 (by decide))
theorem kp_place {σ : XS} {v cup mm : Int32} : KPm σ (S_LW_place σ v cup mm).2 := by
  unfold S_LW_place
  cases hc : S_LC_place σ v cup mm with
  | inl v => exact kpc_place v.1 v.2 hc
  | inr E => exact kp_0
theorem kpc_item {σ : XS} {it gr le : Int32} : kpr σ (S_LC_item σ it gr le) := by
  unfold S_LC_item
  refine kpr_bp (fun _ => ?_)
  refine kpr_bp (fun _ => ?_)
  refine kpr_bp (fun _ => ?_)
  refine kpr_if ?_ ?_
  · exact kpr_inl (kp_I (kp_I kp_0 (by decide)) (by decide))
  · refine kpr_if ?_ ?_
    · exact kpr_inl (kp_I (kp_I kp_0 (by decide)) (by decide))
    · exact kpr_inr
theorem kp_item {σ : XS} {it gr le : Int32} : KPm σ (S_LW_item σ it gr le).2 := by
  unfold S_LW_item
  cases hc : S_LC_item σ it gr le with
  | inl v => exact kpc_item v.1 v.2 hc
  | inr E => exact kp_0
theorem kpc_list {σ : XS} {k cup it n : Int32} : kpr σ (S_LC_list σ k cup it n) := by
  unfold S_LC_list
  refine kpr_bp (fun _ => ?_)
  refine kpr_bp (fun _ => ?_)
  refine kpr_bp (fun _ => ?_)
  refine kpr_bp (fun _ => ?_)
  exact kpr_inl (kp_I kp_0 (by decide))
theorem kp_list {σ : XS} {k cup it n : Int32} : KPm σ (S_LW_list σ k cup it n).2 := by
  unfold S_LW_list
  cases hc : S_LC_list σ k cup it n with
  | inl v => exact kpc_list v.1 v.2 hc
  | inr E => exact kp_0
theorem kpc_stock {σ : XS} {it n : Int32} : kpr σ (S_LC_stock σ it n) := by
  unfold S_LC_stock
  refine kpr_bp (fun _ => ?_)
  refine kpr_bp (fun _ => ?_)
  refine kpr_if ?_ ?_
  · exact kpr_inl (kp_I kp_0 (by decide))
  · exact kpr_inr
theorem kp_stock {σ : XS} {it n : Int32} : KPm σ (S_LW_stock σ it n).2 := by
  unfold S_LW_stock
  cases hc : S_LC_stock σ it n with
  | inl v => exact kpc_stock v.1 v.2 hc
  | inr E => exact kp_0
theorem kpc_put {σ : XS} {v cup it n : Int32} : kpr σ (S_LC_put σ v cup it n) := by
  unfold S_LC_put
  refine kpr_bp (fun _ => ?_)
  refine kpr_bp (fun _ => ?_)
  refine kpr_bp (fun _ => ?_)
  refine kpr_bp (fun _ => ?_)
  refine kpr_bp (fun _ => ?_)
  refine kpr_bp (fun _ => ?_)
  exact kpr_inl (kp_load kp_0)
theorem kp_put {σ : XS} {v cup it n : Int32} : KPm σ (S_LW_put σ v cup it n).2 := by
  unfold S_LW_put
  cases hc : S_LC_put σ v cup it n with
  | inl v => exact kpc_put v.1 v.2 hc
  | inr E => exact kp_0
theorem kpc_use {σ : XS} {v cup it n : Int32} : kpr σ (S_LC_use σ v cup it n) := by
  unfold S_LC_use
  refine kpr_bp (fun _ => ?_)
  refine kpr_bp (fun _ => ?_)
  refine kpr_bp (fun _ => ?_)
  refine kpr_bp (fun _ => ?_)
  refine kpr_bp (fun _ => ?_)
  exact kpr_inl (kp_load kp_0)
theorem kp_use {σ : XS} {v cup it n : Int32} : KPm σ (S_LW_use σ v cup it n).2 := by
  unfold S_LW_use
  cases hc : S_LC_use σ v cup it n with
  | inl v => exact kpc_use v.1 v.2 hc
  | inr E => exact kp_0
theorem kpc_replace {σ : XS} {v : Int32} : kpr σ (S_LC_replace σ v) := by
  unfold S_LC_replace
  refine kpr_bp (fun _ => ?_)
  exact kpr_L_replace _ _ _ _ _ _
theorem kp_replace {σ : XS} {v : Int32} : KPm σ (S_LW_replace σ v).2 := by
  unfold S_LW_replace
  cases hc : S_LC_replace σ v with
  | inl v => exact kpc_replace v.1 v.2 hc
  | inr E => exact kp_0
theorem kpc_swap {σ : XS} {v u cup it n : Int32} : kpr σ (S_LC_swap σ v u cup it n) := by
  unfold S_LC_swap
  refine kpr_bp (fun _ => ?_)
  refine kpr_bp (fun _ => ?_)
  refine kpr_if ?_ ?_
  · exact kpr_inr
  · refine kpr_bp (fun _ => ?_)
    refine kpr_bp (fun _ => ?_)
    refine kpr_bp (fun _ => ?_)
    refine kpr_bp (fun _ => ?_)
    refine kpr_bp (fun _ => ?_)
    refine kpr_bp (fun _ => ?_)
    exact kpr_inl (kp_add (kp_add (kp_load (kp_load kp_0))))
theorem kp_swap {σ : XS} {v u cup it n : Int32} : KPm σ (S_LW_swap σ v u cup it n).2 := by
  unfold S_LW_swap
  cases hc : S_LC_swap σ v u cup it n with
  | inl v => exact kpc_swap v.1 v.2 hc
  | inr E => exact kp_0
theorem kpc_ends {σ : XS} {v it d : Int32} : kpr σ (S_LC_ends σ v it d) := by
  unfold S_LC_ends
  refine kpr_bp (fun _ => ?_)
  refine kpr_bp (fun _ => ?_)
  refine kpr_bp (fun _ => ?_)
  exact kpr_inl (kp_I kp_0 (by decide))
theorem kp_ends {σ : XS} {v it d : Int32} : KPm σ (S_LW_ends σ v it d).2 := by
  unfold S_LW_ends
  cases hc : S_LC_ends σ v it d with
  | inl v => exact kpc_ends v.1 v.2 hc
  | inr E => exact kp_0
theorem kpc_battery {σ : XS} {v it d : Int32} : kpr σ (S_LC_battery σ v it d) := by
  unfold S_LC_battery
  refine kpr_bp (fun _ => ?_)
  refine kpr_bp (fun _ => ?_)
  refine kpr_bp (fun _ => ?_)
  exact kpr_inl (kp_I kp_0 (by decide))
theorem kp_battery {σ : XS} {v it d : Int32} : KPm σ (S_LW_battery σ v it d).2 := by
  unfold S_LW_battery
  cases hc : S_LC_battery σ v it d with
  | inl v => exact kpc_battery v.1 v.2 hc
  | inr E => exact kp_0
theorem kpc_seal {σ : XS} {v cup b : Int32} : kpr σ (S_LC_seal σ v cup b) := by
  unfold S_LC_seal
  refine kpr_bp (fun _ => ?_)
  refine kpr_bp (fun _ => ?_)
  refine kpr_if ?_ ?_
  · refine kpr_if ?_ ?_
    · exact kpr_inr
    · exact kpr_inl (kp_I kp_0 (by decide))
  · refine kpr_if ?_ ?_
    · exact kpr_inr
    · exact kpr_inl (kp_I kp_0 (by decide))
theorem kp_seal {σ : XS} {v cup b : Int32} : KPm σ (S_LW_seal σ v cup b).2 := by
  unfold S_LW_seal
  cases hc : S_LC_seal σ v cup b with
  | inl v => exact kpc_seal v.1 v.2 hc
  | inr E => exact kp_0
theorem kpc_check {σ : XS} {v : Int32} : kpr σ (S_LC_check σ v) := by
  unfold S_LC_check
  refine kpr_bp (fun _ => ?_)
  exact kpr_inl (kp_I (kp_I kp_0 (by decide)) (by decide))
theorem kp_check {σ : XS} {v : Int32} : KPm σ (S_LW_check σ v).2 := by
  unfold S_LW_check
  cases hc : S_LC_check σ v with
  | inl v => exact kpc_check v.1 v.2 hc
  | inr E => exact kp_0
theorem kpc_now {σ : XS} {d sh : Int32} : kpr σ (S_LC_now σ d sh) := by
  unfold S_LC_now
  refine kpr_bp (fun _ => ?_)
  refine kpr_if ?_ ?_
  · refine kpr_bp (fun _ => ?_)
    exact kpr_inl (kp_I (kp_I kp_0 (by decide)) (by decide))
  · refine kpr_bp (fun _ => ?_)
    exact kpr_inl (kp_I (kp_I kp_0 (by decide)) (by decide))
theorem kp_now {σ : XS} {d sh : Int32} : KPm σ (S_LW_now σ d sh).2 := by
  unfold S_LW_now
  cases hc : S_LC_now σ d sh with
  | inl v => exact kpc_now v.1 v.2 hc
  | inr E => exact kp_0
theorem kp_ready {σ : XS} {v : Int32} : KPm σ (S_LW_ready σ v).2 := by
  unfold S_LW_ready
  cases hc : S_LC_ready σ v with
  | inl v => exact kp_0
  | inr E => exact kp_0
theorem kp_missing {σ : XS} {v q : Int32} : KPm σ (S_LW_missing σ v q).2 := by
  unfold S_LW_missing
  cases hc : S_LC_missing σ v q with
  | inl v => exact kp_0
  | inr E => exact kp_0
theorem kp_share {σ : XS} {v : Int32} : KPm σ (S_LW_share σ v).2 := by
  unfold S_LW_share
  cases hc : S_LC_share σ v with
  | inl v => exact kp_0
  | inr E => exact kp_0
theorem kp_axle {σ : XS} {v q : Int32} : KPm σ (S_LW_axle σ v q).2 := by
  unfold S_LW_axle
  cases hc : S_LC_axle σ v q with
  | inl v => exact kp_0
  | inr E => exact kp_0
theorem kp_row {σ : XS} {a b : Int32} : KPm σ (S_LW_row σ a b).2 := by
  unfold S_LW_row
  cases hc : S_LC_row σ a b with
  | inl v => exact kp_0
  | inr E => exact kp_0
theorem kp_has {σ : XS} {v cup it : Int32} : KPm σ (S_LW_has σ v cup it).2 := by
  unfold S_LW_has
  cases hc : S_LC_has σ v cup it with
  | inl v => exact kp_0
  | inr E => exact kp_0
theorem kp_stocked {σ : XS} {it : Int32} : KPm σ (S_LW_stocked σ it).2 := by
  unfold S_LW_stocked
  cases hc : S_LC_stocked σ it with
  | inl v => exact kp_0
  | inr E => exact kp_0
