/-! the start -/
theorem isum_0 {f : Nat → Int} (h : ∀ j, f j = 0) : ∀ n, isum f n = 0
  | 0 => rfl
  | n + 1 => by
    show isum f n + f n = 0
    rw [isum_0 h n, h n]
    rfl
theorem Rel0 : Rel 0 xI0 := by
  have n0 : (0 : Int32).toInt = 0 := rfl
  have z0 : ∀ N : Int, 0 ≤ N → 0 ≤ (0 : Int32).toInt ∧ (0 : Int32).toInt ≤ N := fun N h => by rw [n0]; omega
  have zp : -2000 ≤ (0 : Int32).toInt ∧ (0 : Int32).toInt ≤ 10000 := by decide
  have z : ∀ v, isum (gw xI0 v) 240 = 0 := fun v => isum_0 (fun j => rfl) 240
  have zm : ∀ v, isum (gm xI0 v) 240 = 0 := fun v => isum_0 (fun j => rfl) 240
  have lt0 : ∀ v : Nat, ¬ (v : Int) < (xI0.1 15 0 6).toInt := fun v q => by
    have q : (v : Int) < (0 : Int32).toInt := q
    omega
  refine ⟨rfl, ⟨Int.le_refl _, by decide⟩, rfl, rfl, ⟨Int.le_refl _, by decide⟩, ⟨Int.le_refl _, by decide⟩, fun _ _ => rfl, fun _ _ => z0 500000 (by decide), fun _ _ => rfl, fun _ _ => rfl, fun _ _ => z0 10000 (by decide), fun _ _ _ _ => rfl, fun _ _ => z0 99 (by decide), fun _ _ _ _ => rfl, fun _ _ => z0 99 (by decide), fun _ _ _ => rfl, fun _ _ => rfl, fun _ _ => pk_in 0 6 (by decide), fun v _ q => absurd q (lt0 v), fun v _ q => absurd q (lt0 v), fun _ _ => rfl, fun _ _ => z0 20000000 (by decide), fun _ _ => rfl, fun _ _ => z0 20000000 (by decide), fun _ _ _ _ => rfl, fun _ _ => zp, fun _ _ _ _ => rfl, fun _ _ => Or.inl rfl, fun v _ q => absurd q (lt0 v), fun v _ _ i hi => if_pos hi, fun v _ i hi => ?_, fun v _ q => absurd q (lt0 v), fun v _ _ i hi => if_pos hi, fun v _ q => absurd q (lt0 v), fun _ _ _ => ⟨rfl, rfl⟩, fun v _ => ?_, fun v _ => ?_, rfl, ⟨Int.le_refl _, by decide⟩, fun _ _ => rfl⟩
  · show -1 ≤ (if i < 30 then (-1 : Int32) else 0).toInt
    rw [if_pos hi]
    decide
  · rw [z v]
    rfl
  · rw [zm v]
    rfl
theorem xA_lt {r i : Nat} (h : i < XN r) : XA r i < 127 := by
  have h1 := xInv_at h
  have h2 := (List.getElem?_eq_some_iff.mp h1).1
  exact Nat.lt_of_lt_of_le h2 (by decide +kernel)
theorem xk_full {D : va_G} {dA : Nat → ClassId} {s0 : State} {σ : XS} {H : Heap} {locs : List Loc} (h : XK D s0 127 (XE dA (xB s0) σ) H locs) : XWs D dA s0 σ H := fun r i hi => h.1 r i (cn_mk hi (xA_lt hi))
theorem x_arr {U : State} {cA comp : ClassId} {kA : Class} {ty : FieldType} (h2 : U.vm.classes[cA]? = some kA) (h3 : kA.kind = .array comp ty) : ArrOfT U cA ty := fun n z => ⟨fun k h => (by cases h), kA, h2, comp, h3⟩
theorem xT_in {w : Cond} (h : w ∈ xT) : w ∈ lw_tbl := (List.mem_filter.mp h).1
theorem xStr_in : ∀ q ∈ xStr, q.1 = "LoadChecks" ∧ Cond.stringRef q.1 q.2.1 q.2.2 ∈ lw_tbl := by decide +kernel
theorem xs0_mk {l : Launch} {s : State} {A : Array Value} (hfl : l.flags = pinnedFlags ++ [noTraceFlag]) (hts : ∀ w ∈ lw_tbl, w.before A s = true) (hgv : (Jvm.Cond.and given_1 narrow_1).before A s = true) : ∃ (D : va_G) (dA : Nat → ClassId), XS0 l s A D dA := by
  obtain ⟨c0, i0, k0⟩ := u_known hts (fun w hw => xT_in (hi_LC w hw)) (hts (Cond.instantiable "LoadChecks" 9) (by decide +kernel))
  obtain ⟨c1, i1, k1⟩ := u_known hts (fun w hw => xT_in (hi_VE w hw)) (hts (Cond.instantiable "LoadChecks$Vehicle" 13) (by decide +kernel))
  obtain ⟨c2, i2, k2⟩ := u_known hts (fun w hw => xT_in (hi_RW w hw)) (hts (Cond.instantiable "LoadChecks$Rows" 2) (by decide +kernel))
  obtain ⟨c3, i3, k3⟩ := u_known hts (fun w hw => xT_in (hi_MO w hw)) (hts (Cond.instantiable "LoadChecksModel" 20) (by decide +kernel))
  obtain ⟨a0, b0, p0, q0, r0, t0⟩ := Cond.arrayClass_spec (hts (Cond.arrayClass .int) (by decide +kernel))
  obtain ⟨a1, b1, p1, q1, r1, t1⟩ := Cond.arrayClass_spec (hts (Cond.arrayClass .boolean) (by decide +kernel))
  obtain ⟨a2, b2, p2, q2, r2, t2⟩ := Cond.arrayClass_spec (hts (Cond.arrayClass .long) (by decide +kernel))
  obtain ⟨p3, a3, b3, u3, -, r3, t3, q3⟩ := arrayOverA_spec (hts (Cond.arrayOver (.array .int)) (by decide +kernel))
  obtain ⟨p4, a4, b4, u4, -, r4, t4, q4⟩ := Cond.arrayOver_spec (hts (Cond.arrayOver (.object "LoadChecks$Vehicle")) (by decide +kernel))
  refine ⟨(fun k => match k with | 0 => c0 | 1 => c1 | 2 => c2 | _ => c3, fun k => match k with | 0 => i0 | 1 => i1 | 2 => i2 | _ => i3), (fun k => match k with | 0 => a0 | 1 => a1 | 2 => a2 | 3 => a3 | _ => a4), hfl, hts, ⟨fun c q hc => ?_, fun k q hk => ?_⟩, fun q hq => ?_, flat_of_before _ hgv⟩
  · match c, hc with
    | 0, hc => cases hc; exact k0
    | 1, hc => cases hc; exact k1
    | 2, hc => cases hc; exact k2
    | 3, hc => cases hc; exact k3
    | c + 4, hc => cases hc
  · match k, hk with
    | 0, hk => cases hk; exact ⟨x_arr r0 t0, q0⟩
    | 1, hk => cases hk; exact ⟨x_arr r1 t1, q1⟩
    | 2, hk => cases hk; exact ⟨x_arr r2 t2, q2⟩
    | 3, hk => cases hk; exact ⟨x_arr r3 t3, q3⟩
    | 4, hk => cases hk; exact ⟨x_arr r4 t4, b4, p4, r4, t4, u4, q4⟩
    | k + 5, hk => cases hk
  · obtain ⟨e1, hm⟩ := xStr_in q hq
    have hw := hts _ hm
    have hcl : s.vm.findClass q.1 = some c0 := by rw [e1]; exact k0.2.1
    obtain ⟨k, cf, i, a, -, -, -, -, -, hev⟩ := Cond.stringRef_spec hcl hw
    exact ⟨a, vk_R.of hw hev⟩
