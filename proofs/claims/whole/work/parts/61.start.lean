/-! THE START: both states are zero; array classes; static arrays -/
theorem sm_start : Sim (fun _ _ => 0) (fun _ _ => 0) (fun _ _ => 0) (fun _ _ => 0) := by
  refine ⟨fun r _ => ⟨0, Nat.zero_le _, nI_0.symm, nI_0.symm, qx_e0⟩, ⟨fun _ => 0, fun _ => 0, 0, 0, 0, 0, 0, 0, 0, 0, 0, 0, 0, 0, ?_, ?_, Or.inl ⟨rfl, rfl, rfl, rfl, rfl, rfl, rfl⟩⟩, ⟨fun _ _ _ _ => rfl, fun j _ => ?_⟩, nI_0.symm⟩
  · funext j
    unfold fl_g
    split <;> first | rfl | exact nI_0.symm
  · funext j
    unfold md_g
    split <;> first | rfl | exact nI_0.symm
  · show (0 : Int64) = lN 0
    decide +kernel
theorem lq_arr {args : Array Value} {s : State} {t : FieldType} (h : (Cond.arrayClass t).before args s = true) (ho : ∀ C, t ≠ .object C) : ∃ c : ClassId, ArrOfT s c t ∧ va_RA s c t := by
  obtain ⟨c, k, comp, h1, h2, h3⟩ := Cond.arrayClass_spec h
  refine ⟨c, fun n z => ⟨fun k h => (by cases h), k, h2, comp, h3⟩, ?_⟩
  cases t <;> first | exact h1 | exact absurd rfl (ho _)
theorem lq_arrO {args : Array Value} {s : State} {C : String} (h : (Cond.arrayOver (.object C)).before args s = true) : ∃ c : ClassId, ArrOfT s c (.object C) ∧ va_RA s c (.object C) := by
  obtain ⟨comp, c, k, h1, h2, h3, h4, h5⟩ := Cond.arrayOver_spec h
  exact ⟨c, fun n z => ⟨fun k h => (by cases h), k, h3, comp, h4⟩, k, comp, h3, h4, h1, h5⟩
theorem lq_stat {args : Array Value} {s : State} {C n d : String} {ty : FieldType} {N : Nat} {f : Nat → Value} (hN : N < 2 ^ 31) (hl : (Cond.laysStatic C n d).before args s = true) (hini : (Cond.initialized C).before args s = true) (harr : (Cond.arrayOf (.static C n d) ty).before args s = true) (hlen : (Cond.eq (.length (.static C n d)) (.int (Int32.ofNat N))).before args s = true) (hel : ∀ j : Nat, j < N → (Term.elem (.static C n d) (.int (Int32.ofNat j))).eval args s none [] s = some (f j)) : ∃ t : Nat, va_Z C n d (.ref t) (fun q => s.heap.size ≤ q) s s.heap ∧ va_T ty t N f (fun q => s.heap.size ≤ q) s s.heap := by
  obtain ⟨t, ht, hT⟩ := va_Tof (f := f) (A := fun q => s.heap.size ≤ q) hN harr (va_eqt hlen) hel (fun a h9 => Nat.not_le.mpr h9)
  exact ⟨t, va_Zof hl hini ht (fun a h9 => Nat.not_le.mpr h9), hT⟩
