section ZM
variable {X : zk_X} {E : zk_E} {own : String} {cc : ByteArray} {dep mx : Nat × Nat} {pc pc' kc nc : Nat} {lv : List (Option Value)} {st : List Value} {w : va_W}
/-- new long[N][K] -/
theorem zn_arrExt {c : ClassId} {N : Nat} {f g : Nat → Value} (h : ∀ j, j < N → f j = g j) : arrV c N f = arrV c N g := by
  unfold arrV
  rw [show (fun j : Fin N => f j.val) = (fun j : Fin N => g j.val) from funext fun j => h j.1 j.2]
theorem zn_outer (c : ClassId) (N h0 : Nat) : ∀ i : Nat, Jvm.Free.Multi.outerC c N h0 i = arrV c N (fun j => if j < i then .ref (h0 + 1 + j) else .null)
  | 0 => by
    show ({ cls := c, slots := Array.replicate N .null, vm := .none } : Cell) = _
    rw [arrV_new]
    exact zn_arrExt (fun j _ => by simp)
  | i + 1 => by
    show (Jvm.Free.Multi.outerC c N h0 i).setSlot i (.ref (h0 + 1 + i)) = _
    rw [zn_outer c N h0 i, arrV_store]
    refine zn_arrExt (fun j _ => ?_)
    by_cases e : j = i
    · subst e
      simp [updV]
    · by_cases h : j < i
      · simp [updV, e, h, Nat.lt_succ_of_lt h]
      · simp [updV, e, h, show ¬ j < i + 1 by omega]
abbrev zn_rows (X : zk_X) (q N K : Nat) : va_W := (List.range N).map (fun i => (q + 1 + i, .inl (X.2.2.2.1 2, K, .inr (.inl (fun _ => 0)))))
theorem zn_mna {idx N K : Nat} {z y : Int32} (h : zn_C X E own cc dep mx) (hcl : Cond.classLink own idx "[[J" ∈ zk_ws) (hac : Cond.arrayClass .long ∈ zk_ws) (hz : ¬ z < 0) (hy : ¬ y < 0) (hN : z.toNatClampNeg = N) (hK : y.toNatClampNeg = K) (hb : N ≤ 1000) (hb2 : K ≤ 1000) (hk : kc + 1 + N ≤ mx.1) (hn : nc + N + N * K ≤ mx.2) (d : zk_D cc pc pc' (.multianewarray idx 2) 4)
    (kk : ∀ q : Nat, zn_A X E pc' lv (.ref q :: st) ((q, .inl (X.2.2.2.1 4, N, .inr (.inr (.inr (.inr (fun i => some (q + 1 + i))))))) :: (zn_rows X q N K ++ w)) (kc + 1 + N) (nc + N + N * K)) : zn_A X E pc lv (.int y :: .int z :: st) w kc nc := by
  obtain ⟨p, e, R, s, m, args, below, meth, c, cells, slots, Q⟩ := E
  obtain ⟨d, rfl⟩ := d
  obtain ⟨c1, c2, c3, c4, c5, c6, c7, c8, c9⟩ := h
  subst hN
  subst hK
  intro ls H locs hn' hll hP hS T hT Xs
  obtain ⟨vm₁, cA, comp, -, fA, fC, hO, -, X', step⟩ := Xs.multianewarray2F (ty := .long) c1 c3 (c4 _ hcl) (zn_AOA.use c5.2.2.2.2.2) (c4 _ hac) (g := F0 m pc ls (.int y :: .int z :: st)) rfl (by rw [c2]; exact d) rfl hz hy (by omega) (by show _ * 8 ≤ _; omega) (by omega) rfl rfl (by omega) (by omega)
  have eA : X.2.2.2.1 4 = cA := Option.some.inj ((zn_RA_find (c5.1.2 4 (X.2.2.2.1 4, zk_ty4) rfl).2).symm.trans fA)
  have eC : X.2.2.2.1 2 = comp := Option.some.inj ((zn_RA_find (c5.1.2 2 (X.2.2.2.1 2, .long) rfl).2).symm.trans fC)
  subst eA
  subst eC
  generalize hF : Jvm.Free.Multi.fill (T.setVm vm₁) (X.2.2.2.1 4) (X.2.2.2.1 2) z.toNatClampNeg y.toNatClampNeg (defaultValue .long) z.toNatClampNeg = F at X' step
  have hTh : (T.setVm vm₁).heap = H := hT
  obtain ⟨f1, f2, -, -⟩ := Jvm.Free.Multi.fill_facts (T.setVm vm₁) (X.2.2.2.1 4) (X.2.2.2.1 2) z.toNatClampNeg y.toNatClampNeg (defaultValue .long) z.toNatClampNeg
  rw [hF, hTh] at f1 f2
  have hold : ∀ x : Nat, x < H.size → F.heap[x]? = H[x]? := fun x hx => by
    have := Jvm.Free.Multi.fill_old (T.setVm vm₁) (X.2.2.2.1 4) (X.2.2.2.1 2) z.toNatClampNeg y.toNatClampNeg (defaultValue .long) (a := x) (by rw [hTh]; exact hx) z.toNatClampNeg
    rw [hF, hTh] at this
    exact this
  have hrow : ∀ j : Nat, j < z.toNatClampNeg → F.heap[H.size + 1 + j]? = some (vp_cell (X.2.2.2.1 2) (y.toNatClampNeg, .inr (.inl (fun _ => 0)))) := fun j hj => by
    have := Jvm.Free.Multi.fill_inner (T.setVm vm₁) (X.2.2.2.1 4) (X.2.2.2.1 2) z.toNatClampNeg y.toNatClampNeg (defaultValue .long) z.toNatClampNeg j hj
    rw [hF, hTh] at this
    rw [this]
    exact congrArg some (arrV_new _ _ _)
  have hout : Jvm.Free.Multi.outerC (X.2.2.2.1 4) z.toNatClampNeg H.size z.toNatClampNeg = vp_cell (X.2.2.2.1 4) (z.toNatClampNeg, .inr (.inr (.inr (.inr (fun i => some (H.size + 1 + i)))))) := by
    rw [zn_outer, vp_cell_q]
    exact zn_arrExt (fun j hj => by simp [hj, va_rf])
  rw [hout] at f2
  have hlt : ∀ x ∈ w, x.1 < H.size := fun x hx => by
    obtain ⟨k9, hk9⟩ := List.getElem?_of_mem hx
    exact (hP.1 k9 _ hk9).lt
  have hrm : ∀ x ∈ zn_rows X H.size z.toNatClampNeg y.toNatClampNeg, ∃ i, i < z.toNatClampNeg ∧ x = (H.size + 1 + i, .inl (X.2.2.2.1 2, y.toNatClampNeg, .inr (.inl (fun _ => 0)))) := fun x hx => by
    obtain ⟨i, hi, e⟩ := List.mem_map.mp hx
    exact ⟨i, List.mem_range.mp hi, e.symm⟩
  have hb0 : X.2.1 ≤ H.size := Nat.le_trans c5.2.2.2.1 hS.1
  have hW1 : zn_W X ((H.size, .inl (X.2.2.2.1 4, z.toNatClampNeg, .inr (.inr (.inr (.inr (fun i => some (H.size + 1 + i))))))) :: (zn_rows X H.size z.toNatClampNeg y.toNatClampNeg ++ w)) F.heap := by
    refine ⟨zn_P_iff.mpr fun x hx => ?_, zn_D_iff.mpr ⟨List.pairwise_cons.mpr ⟨fun x hx => ?_, List.pairwise_append.mpr ⟨?_, (zn_D_iff.mp hP.2).1, fun x hx y hy => ?_⟩⟩, fun x hx => ?_⟩⟩
    · rcases List.mem_cons.mp hx with rfl | hx
      · exact f2
      · rcases List.mem_append.mp hx with hx | hx
        · obtain ⟨i, hi, rfl⟩ := hrm x hx
          exact hrow i hi
        · exact (zn_P_iff.mp hP.1 x hx).kept (hold x.1 (hlt x hx))
    · rcases List.mem_append.mp hx with hx | hx
      · obtain ⟨i, hi, rfl⟩ := hrm x hx
        show H.size ≠ H.size + 1 + i
        omega
      · have := hlt x hx
        show H.size ≠ x.1
        omega
    · refine List.pairwise_map.mpr (List.pairwise_lt_range.imp ?_)
      intro i j hij
      show H.size + 1 + i ≠ H.size + 1 + j
      omega
    · obtain ⟨i, hi, rfl⟩ := hrm x hx
      have := hlt y hy
      show H.size + 1 + i ≠ y.1
      omega
    · rcases List.mem_cons.mp hx with rfl | hx
      · exact hb0
      · rcases List.mem_append.mp hx with hx | hx
        · obtain ⟨i, hi, rfl⟩ := hrm x hx
          show X.2.1 ≤ H.size + 1 + i
          omega
        · exact (zn_D_iff.mp hP.2).2 x hx
  have hs9 : H.size ≤ F.heap.size := by rw [f1]; omega
  obtain ⟨t, a1, b1⟩ := kk H.size ls F.heap locs hn' hll hW1 ⟨Nat.le_trans hS.1 hs9, fun x h1 h2 => (hold x (Nat.lt_of_lt_of_le h1 hS.1)).trans (hS.2.1 x h1 h2), hS.2.2⟩ F rfl X'
  rw [hT] at step
  exact ⟨t, step t a1, b1⟩
end ZM
theorem lq_arrA {args : Array Value} {s : State} {t : FieldType} (h : (Cond.arrayOver (.array t)).before args s = true) : ∃ c : ClassId, ArrOfT s c (.array t) ∧ va_RA s c (.array t) := by
  obtain ⟨comp, c, k, h1, h2, h3, h4⟩ := Cond.arrayOver_specA h
  exact ⟨c, fun n z => ⟨fun k h => (by cases h), k, h2, comp, h3⟩, h4⟩
