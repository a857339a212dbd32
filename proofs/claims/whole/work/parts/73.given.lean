set_option maxRecDepth 100000 in
theorem nw_L_7 : Cond.classLink RL 7 RX4 ∈ zk_ws ∧ Cond.instantiable RX4 5 ∈ zk_ws ∧ Cond.initialized RX4 ∈ zk_ws := by decide +kernel
set_option maxRecDepth 100000 in
theorem nw_L_10 : Cond.classLink RL 10 RX5 ∈ zk_ws ∧ Cond.instantiable RX5 23 ∈ zk_ws ∧ Cond.initialized RX5 ∈ zk_ws := by decide +kernel
theorem lq_tb {w : Cond} (h : w ∈ zk_ws) : w ∈ lw_tbl := (List.mem_filter.mp h).1
theorem lq_seg {l : List Cond} {n : Nat} {f : Nat → Cond} (a : Nat) (h : (l.drop a).take n = (List.range n).map f) : ∀ j, j < n → f j ∈ l := fun j hj => List.mem_of_mem_drop (List.mem_of_mem_take (by rw [h]; exact List.mem_map.mpr ⟨j, List.mem_range.mpr hj, rfl⟩))
set_option maxRecDepth 100000 in
theorem lq_se0 : ∀ j, j < 32 → Cond.eq (.elem (.static "SlowSeal" "FOURS" "[I") (.int (Int32.ofNat j))) (.int (nI (zk_four.getD j 0))) ∈ flatC (Jvm.Cond.and given_1 narrow_1) := lq_seg 181 (by decide +kernel)
set_option maxRecDepth 100000 in
theorem lq_sl0 : Cond.eq (.length (.static "SlowSeal" "FOURS" "[I")) (.int (Int32.ofNat 32)) ∈ flatC (Jvm.Cond.and given_1 narrow_1) ∧ Cond.arrayOf (.static "SlowSeal" "FOURS" "[I") .int ∈ flatC (Jvm.Cond.and given_1 narrow_1) := by decide +kernel
set_option maxRecDepth 100000 in
theorem lq_sw0 : Cond.laysStatic "SlowSeal" "FOURS" "[I" ∈ lw_tbl ∧ Cond.initialized "SlowSeal" ∈ lw_tbl := by decide +kernel
set_option maxRecDepth 100000 in
theorem lq_se1 : ∀ j, j < 8 → Cond.eq (.elem (.static "SlowSeal$Hasher" "START" "[J") (.int (Int32.ofNat j))) (.long (zk_start.getD j 0)) ∈ flatC (Jvm.Cond.and given_1 narrow_1) := lq_seg 7 (by decide +kernel)
set_option maxRecDepth 100000 in
theorem lq_sl1 : Cond.eq (.length (.static "SlowSeal$Hasher" "START" "[J")) (.int (Int32.ofNat 8)) ∈ flatC (Jvm.Cond.and given_1 narrow_1) ∧ Cond.arrayOf (.static "SlowSeal$Hasher" "START" "[J") .long ∈ flatC (Jvm.Cond.and given_1 narrow_1) := by decide +kernel
set_option maxRecDepth 100000 in
theorem lq_sw1 : Cond.laysStatic "SlowSeal$Hasher" "START" "[J" ∈ lw_tbl ∧ Cond.initialized "SlowSeal$Hasher" ∈ lw_tbl := by decide +kernel
set_option maxRecDepth 100000 in
theorem lq_se2 : ∀ j, j < 160 → Cond.eq (.elem (.static "SlowSeal$Hasher" "ORDERS" "[I") (.int (Int32.ofNat j))) (.int (nI (zk_ord.getD j 0))) ∈ flatC (Jvm.Cond.and given_1 narrow_1) := lq_seg 18 (by decide +kernel)
set_option maxRecDepth 100000 in
theorem lq_sl2 : Cond.eq (.length (.static "SlowSeal$Hasher" "ORDERS" "[I")) (.int (Int32.ofNat 160)) ∈ flatC (Jvm.Cond.and given_1 narrow_1) ∧ Cond.arrayOf (.static "SlowSeal$Hasher" "ORDERS" "[I") .int ∈ flatC (Jvm.Cond.and given_1 narrow_1) := by decide +kernel
set_option maxRecDepth 100000 in
theorem lq_sw2 : Cond.laysStatic "SlowSeal$Hasher" "ORDERS" "[I" ∈ lw_tbl ∧ Cond.initialized "SlowSeal$Hasher" ∈ lw_tbl := by decide +kernel
set_option maxRecDepth 100000 in
theorem lq_ao : Cond.arrayOver (.object "SlowSeal$Bytes") ∈ lw_tbl := by decide +kernel
set_option maxRecDepth 100000 in
theorem lq_aoa : Cond.arrayOver (.array .long) ∈ lw_tbl := by decide +kernel
set_option maxRecDepth 100000 in
theorem lq_Y (l : Launch) {s : State} {args : Array Value} (hts : ∀ w ∈ lw_tbl, w.before args s = true) (hs : ∀ c ∈ flatC (Jvm.Cond.and given_1 narrow_1), c.before args s = true) : ∃ Y : zk_X, Y.1 = l ∧ Y.2.1 = s.heap.size ∧ zn_G Y s := by
  obtain ⟨c0, i0, k0⟩ := u_known (C := RX0) (T := TX0) (N := 2) (n := 2) hts (fun w hw => lq_tb (uw_X0 w hw)) (hts _ (lq_tb nw_X4_9.2.1))
  obtain ⟨c1, i1, k1⟩ := u_known (C := RX1) (T := TX1) (N := 14) (n := 14) hts (fun w hw => lq_tb (uw_X1 w hw)) (hts _ (lq_tb nw_X4_32.2.1))
  obtain ⟨c2, i2, k2⟩ := u_known (C := RX2) (T := TX2) (N := 5) (n := 5) hts (fun w hw => lq_tb (uw_X2 w hw)) (hts _ (lq_tb nw_X4_25.2.1))
  obtain ⟨c3, i3, k3⟩ := u_known (C := RX3) (T := TX3) (N := 3) (n := 3) hts (fun w hw => lq_tb (uw_X3 w hw)) (hts _ (lq_tb nw_X1_23.2.1))
  obtain ⟨c4, i4, k4⟩ := u_known (C := RX4) (T := TX4) (N := 5) (n := 5) hts (fun w hw => lq_tb (uw_X4 w hw)) (hts _ (lq_tb nw_L_7.2.1))
  obtain ⟨c5, i5, k5⟩ := u_known (C := RX5) (T := TX5) (N := 23) (n := 23) hts (fun w hw => lq_tb (uw_X5 w hw)) (hts _ (lq_tb nw_L_10.2.1))
  obtain ⟨a0, p0⟩ := lq_arr (t := .int) (hts _ (lq_tb ac_int)) (fun _ h => by cases h)
  obtain ⟨a1, p1⟩ := lq_arr (t := .byte) (hts _ (lq_tb ac_byte)) (fun _ h => by cases h)
  obtain ⟨a2, p2⟩ := lq_arr (t := .long) (hts _ (lq_tb ac_long)) (fun _ h => by cases h)
  have o3 : (Cond.arrayOver (.object "SlowSeal$Bytes")).before args s = true := hts _ lq_ao
  have o4 : (Cond.arrayOver (.array .long)).before args s = true := hts _ lq_aoa
  obtain ⟨a3, p3⟩ := lq_arrO o3
  obtain ⟨a4, p4⟩ := lq_arrA o4
  obtain ⟨t0, z0⟩ := lq_stat (ty := .int) (N := 32) (f := fun j => .int (nI (zk_four.getD j 0))) (by decide) (hts _ lq_sw0.1) (hts _ lq_sw0.2) (hs _ lq_sl0.2) (hs _ lq_sl0.1) (fun j hj => va_eqt (hs _ (lq_se0 j hj)))
  obtain ⟨t1, z1⟩ := lq_stat (ty := .long) (N := 8) (f := fun j => .long (zk_start.getD j 0)) (by decide) (hts _ lq_sw1.1) (hts _ lq_sw1.2) (hs _ lq_sl1.2) (hs _ lq_sl1.1) (fun j hj => va_eqtl (hs _ (lq_se1 j hj)))
  obtain ⟨t2, z2⟩ := lq_stat (ty := .int) (N := 160) (f := fun j => .int (nI (zk_ord.getD j 0))) (by decide) (hts _ lq_sw2.1) (hts _ lq_sw2.2) (hs _ lq_sl2.2) (hs _ lq_sl2.1) (fun j hj => va_eqt (hs _ (lq_se2 j hj)))
  refine ⟨(l, s.heap.size, (fun i => match i with | 0 => c0 | 1 => c1 | 2 => c2 | 3 => c3 | 4 => c4 | _ => c5, fun i => match i with | 0 => i0 | 1 => i1 | 2 => i2 | 3 => i3 | 4 => i4 | _ => i5), (fun i => match i with | 0 => a0 | 1 => a1 | 2 => a2 | 3 => a3 | _ => a4), fun _ => 0, (fun i => match i with | 0 => t0 | 1 => t1 | _ => t2), []), rfl, rfl, ⟨fun k q hq => ?_, fun k q hq => ?_⟩, fun j q hq => ?_, fun w hw => ?_, Nat.le_refl _, o3, o4⟩
  · match k, hq with
    | 0, hq => exact Option.some.inj hq ▸ k0
    | 1, hq => exact Option.some.inj hq ▸ k1
    | 2, hq => exact Option.some.inj hq ▸ k2
    | 3, hq => exact Option.some.inj hq ▸ k3
    | 4, hq => exact Option.some.inj hq ▸ k4
    | 5, hq => exact Option.some.inj hq ▸ k5
    | k + 6, hq => cases hq
  · match k, hq with
    | 0, hq => exact Option.some.inj hq ▸ p0
    | 1, hq => exact Option.some.inj hq ▸ p1
    | 2, hq => exact Option.some.inj hq ▸ p2
    | 3, hq => exact Option.some.inj hq ▸ p3
    | 4, hq => exact Option.some.inj hq ▸ p4
    | k + 5, hq => cases hq
  · match j, hq with
    | 0, hq => exact Option.some.inj hq ▸ z0
    | 1, hq => exact Option.some.inj hq ▸ z1
    | 2, hq => exact Option.some.inj hq ▸ z2
    | j + 3, hq => cases hq
  · have h1 := List.mem_filter.mp hw
    have h2 := hts w h1.1
    have h3 := h1.2
    cases w <;> first
      | (simp [zk_isNest] at h3; done)
      | exact va_Nw.of rfl h2

