/-! THE CONSTRUCTORS -/
set_option maxRecDepth 100000 in
theorem ob_X4 : Cond.methodLink RX4 3 Lib.objectInit ∈ zk_ws := by decide +kernel
set_option maxRecDepth 100000 in
theorem ob_X0 : Cond.methodLink RX0 3 Lib.objectInit ∈ zk_ws := by decide +kernel
set_option maxRecDepth 100000 in
theorem ob_X2 : Cond.methodLink RX2 3 Lib.objectInit ∈ zk_ws := by decide +kernel
set_option maxRecDepth 100000 in
theorem ob_X1 : Cond.methodLink RX1 3 Lib.objectInit ∈ zk_ws := by decide +kernel
set_option maxRecDepth 100000 in
theorem ob_X3 : Cond.methodLink RX3 3 Lib.objectInit ∈ zk_ws := by decide +kernel
set_option maxRecDepth 100000 in
theorem ob_X5 : Cond.methodLink RX5 1 Lib.objectInit ∈ zk_ws := by decide +kernel
set_option maxRecDepth 100000 in
theorem ob_ws : Cond.instanceMethod Lib.objectInit ∈ zk_ws ∧ Cond.code Lib.objectInit ⟨#[0xb1]⟩ 1 none ∈ zk_ws := by decide +kernel
set_option maxRecDepth 100000 in
theorem ac_byte : Cond.arrayClass (newarray.typeOf .byte) ∈ zk_ws := by decide +kernel
set_option maxRecDepth 100000 in
theorem ac_int : Cond.arrayClass (newarray.typeOf .int) ∈ zk_ws := by decide +kernel
set_option maxRecDepth 100000 in
theorem ac_long : Cond.arrayClass (newarray.typeOf .long) ∈ zk_ws := by decide +kernel
set_option maxRecDepth 100000 in
theorem cl_X1_9 : Cond.classLink RX1 9 "[[J" ∈ zk_ws := by decide +kernel
set_option maxRecDepth 100000 in
theorem cl_X4_9 : Cond.classLink RX4 9 RX0 ∈ zk_ws := by decide +kernel
set_option maxRecDepth 100000 in
theorem nw_X4_9 : Cond.classLink RX4 9 RX0 ∈ zk_ws ∧ Cond.instantiable RX0 2 ∈ zk_ws ∧ Cond.initialized RX0 ∈ zk_ws := by decide +kernel
set_option maxRecDepth 100000 in
theorem nw_X2_9 : Cond.classLink RX2 9 RX0 ∈ zk_ws ∧ Cond.instantiable RX0 2 ∈ zk_ws ∧ Cond.initialized RX0 ∈ zk_ws := by decide +kernel
set_option maxRecDepth 100000 in
theorem nw_X4_25 : Cond.classLink RX4 25 RX2 ∈ zk_ws ∧ Cond.instantiable RX2 5 ∈ zk_ws ∧ Cond.initialized RX2 ∈ zk_ws := by decide +kernel
set_option maxRecDepth 100000 in
theorem nw_X4_32 : Cond.classLink RX4 32 RX1 ∈ zk_ws ∧ Cond.instantiable RX1 14 ∈ zk_ws ∧ Cond.initialized RX1 ∈ zk_ws := by decide +kernel
set_option maxRecDepth 100000 in
theorem nw_X1_23 : Cond.classLink RX1 23 RX3 ∈ zk_ws ∧ Cond.instantiable RX3 3 ∈ zk_ws ∧ Cond.initialized RX3 ∈ zk_ws := by decide +kernel
set_option maxRecDepth 100000 in
theorem in_X0 : zn_mi yX0_init cX0_init 2 1 := ⟨rfl, by decide +kernel, by decide +kernel, by decide +kernel, by decide +kernel, by decide +kernel, by decide +kernel⟩
set_option maxRecDepth 100000 in
theorem in_X1 : zn_mi yX1_init cX1_init 1 0 := ⟨rfl, by decide +kernel, by decide +kernel, by decide +kernel, by decide +kernel, by decide +kernel, by decide +kernel⟩
set_option maxRecDepth 100000 in
theorem in_X2 : zn_mi yX2_init cX2_init 1 0 := ⟨rfl, by decide +kernel, by decide +kernel, by decide +kernel, by decide +kernel, by decide +kernel, by decide +kernel⟩
set_option maxRecDepth 100000 in
theorem in_X3 : zn_mi yX3_init cX3_init 1 0 := ⟨rfl, by decide +kernel, by decide +kernel, by decide +kernel, by decide +kernel, by decide +kernel, by decide +kernel⟩
set_option maxRecDepth 100000 in
theorem in_X4 : zn_mi yX4_init cX4_init 2 0 := ⟨rfl, by decide +kernel, by decide +kernel, by decide +kernel, by decide +kernel, by decide +kernel, by decide +kernel⟩
set_option maxRecDepth 100000 in
theorem in_X5 : zn_mi yX5_init cX5_init 1 0 := ⟨rfl, by decide +kernel, by decide +kernel, by decide +kernel, by decide +kernel, by decide +kernel, by decide +kernel⟩
set_option maxRecDepth 100000 in
theorem df_X0 : ∀ j, j < 2 → defaultValue (tyX0 j) = vp_V [.null, .int 0] j := fun j hj => match j, hj with | 0, _ => rfl | 1, _ => rfl | j + 2, h => absurd h (by omega)
theorem df_X1 : ∀ j, j < 14 → defaultValue (tyX1 j) = vp_V [.null, .null, .null, .null, .int 0, .int 0, .int 0, .int 0, .int 0, .int 0, .int 0, .int 0, .int 0, .int 0] j := fun j hj => match j, hj with | 0, _ => rfl | 1, _ => rfl | 2, _ => rfl | 3, _ => rfl | 4, _ => rfl | 5, _ => rfl | 6, _ => rfl | 7, _ => rfl | 8, _ => rfl | 9, _ => rfl | 10, _ => rfl | 11, _ => rfl | 12, _ => rfl | 13, _ => rfl | j + 14, h => absurd h (by omega)
theorem df_X2 : ∀ j, j < 5 → defaultValue (tyX2 j) = vp_V [.null, .null, .null, .null, .null] j := fun j hj => match j, hj with | 0, _ => rfl | 1, _ => rfl | 2, _ => rfl | 3, _ => rfl | 4, _ => rfl | j + 5, h => absurd h (by omega)
theorem df_X3 : ∀ j, j < 3 → defaultValue (tyX3 j) = vp_V [.null, .null, .null] j := fun j hj => match j, hj with | 0, _ => rfl | 1, _ => rfl | 2, _ => rfl | j + 3, h => absurd h (by omega)
theorem df_X4 : ∀ j, j < 5 → defaultValue (tyX4 j) = vp_V [.null, .null, .null, .null, .null] j := fun j hj => match j, hj with | 0, _ => rfl | 1, _ => rfl | 2, _ => rfl | 3, _ => rfl | 4, _ => rfl | j + 5, h => absurd h (by omega)
theorem df_X5 : ∀ j, j < 23 → defaultValue (tyX5 j) = vp_V [.int 0, .null, .null, .int 0, .null, .int 0, .null, .null, .null, .null, .null, .int 0, .int 0, .int 0, .int 0, .int 0, .int 0, .int 0, .null, .null, .null, .null, .null] j := fun j hj => match j, hj with | 0, _ => rfl | 1, _ => rfl | 2, _ => rfl | 3, _ => rfl | 4, _ => rfl | 5, _ => rfl | 6, _ => rfl | 7, _ => rfl | 8, _ => rfl | 9, _ => rfl | 10, _ => rfl | 11, _ => rfl | 12, _ => rfl | 13, _ => rfl | 14, _ => rfl | 15, _ => rfl | 16, _ => rfl | 17, _ => rfl | 18, _ => rfl | 19, _ => rfl | 20, _ => rfl | 21, _ => rfl | 22, _ => rfl | j + 23, h => absurd h (by omega)
theorem fd_X0_15 : Cond.fieldLink RX0 15 RX0 (TX0 0).2.1 (TX0 0).2.2.1 ∈ zk_ws := zk_in 61 (by decide +kernel) (by decide +kernel)
theorem fd_X1_11 : Cond.fieldLink RX1 11 RX1 (TX1 0).2.1 (TX1 0).2.2.1 ∈ zk_ws := zk_in 122 (by decide +kernel) (by decide +kernel)
theorem fd_X1_16 : Cond.fieldLink RX1 16 RX1 (TX1 1).2.1 (TX1 1).2.2.1 ∈ zk_ws := zk_in 123 (by decide +kernel) (by decide +kernel)
theorem fd_X1_20 : Cond.fieldLink RX1 20 RX1 (TX1 2).2.1 (TX1 2).2.2.1 ∈ zk_ws := zk_in 124 (by decide +kernel) (by decide +kernel)
theorem fd_X1_26 : Cond.fieldLink RX1 26 RX1 (TX1 3).2.1 (TX1 3).2.2.1 ∈ zk_ws := zk_in 125 (by decide +kernel) (by decide +kernel)
theorem fd_X2_16 : Cond.fieldLink RX2 16 RX2 (TX2 0).2.1 (TX2 0).2.2.1 ∈ zk_ws := zk_in 79 (by decide +kernel) (by decide +kernel)
theorem fd_X2_20 : Cond.fieldLink RX2 20 RX2 (TX2 1).2.1 (TX2 1).2.2.1 ∈ zk_ws := zk_in 81 (by decide +kernel) (by decide +kernel)
theorem fd_X2_23 : Cond.fieldLink RX2 23 RX2 (TX2 2).2.1 (TX2 2).2.2.1 ∈ zk_ws := zk_in 83 (by decide +kernel) (by decide +kernel)
theorem fd_X2_27 : Cond.fieldLink RX2 27 RX2 (TX2 3).2.1 (TX2 3).2.2.1 ∈ zk_ws := zk_in 84 (by decide +kernel) (by decide +kernel)
theorem fd_X2_30 : Cond.fieldLink RX2 30 RX2 (TX2 4).2.1 (TX2 4).2.2.1 ∈ zk_ws := zk_in 85 (by decide +kernel) (by decide +kernel)
theorem fd_X3_15 : Cond.fieldLink RX3 15 RX3 (TX3 1).2.1 (TX3 1).2.2.1 ∈ zk_ws := zk_in 113 (by decide +kernel) (by decide +kernel)
theorem fd_X3_18 : Cond.fieldLink RX3 18 RX3 (TX3 2).2.1 (TX3 2).2.2.1 ∈ zk_ws := zk_in 114 (by decide +kernel) (by decide +kernel)
theorem fd_X3_9 : Cond.fieldLink RX3 9 RX3 (TX3 0).2.1 (TX3 0).2.2.1 ∈ zk_ws := zk_in 112 (by decide +kernel) (by decide +kernel)
theorem fd_X4_11 : Cond.fieldLink RX4 11 RX4 (TX4 0).2.1 (TX4 0).2.2.1 ∈ zk_ws := zk_in 170 (by decide +kernel) (by decide +kernel)
theorem fd_X4_18 : Cond.fieldLink RX4 18 RX4 (TX4 1).2.1 (TX4 1).2.2.1 ∈ zk_ws := zk_in 171 (by decide +kernel) (by decide +kernel)
theorem fd_X4_22 : Cond.fieldLink RX4 22 RX4 (TX4 2).2.1 (TX4 2).2.2.1 ∈ zk_ws := zk_in 172 (by decide +kernel) (by decide +kernel)
theorem fd_X4_28 : Cond.fieldLink RX4 28 RX4 (TX4 3).2.1 (TX4 3).2.2.1 ∈ zk_ws := zk_in 173 (by decide +kernel) (by decide +kernel)
theorem fd_X4_35 : Cond.fieldLink RX4 35 RX4 (TX4 4).2.1 (TX4 4).2.2.1 ∈ zk_ws := zk_in 174 (by decide +kernel) (by decide +kernel)
theorem fd_X5_13 : Cond.fieldLink RX5 13 RX5 (TX5 2).2.1 (TX5 2).2.2.1 ∈ zk_ws := zk_in 441 (by decide +kernel) (by decide +kernel)
theorem fd_X5_16 : Cond.fieldLink RX5 16 RX5 (TX5 4).2.1 (TX5 4).2.2.1 ∈ zk_ws := zk_in 443 (by decide +kernel) (by decide +kernel)
theorem fd_X5_19 : Cond.fieldLink RX5 19 RX5 (TX5 6).2.1 (TX5 6).2.2.1 ∈ zk_ws := zk_in 445 (by decide +kernel) (by decide +kernel)
theorem fd_X5_22 : Cond.fieldLink RX5 22 RX5 (TX5 7).2.1 (TX5 7).2.2.1 ∈ zk_ws := zk_in 446 (by decide +kernel) (by decide +kernel)
theorem fd_X5_26 : Cond.fieldLink RX5 26 RX5 (TX5 8).2.1 (TX5 8).2.2.1 ∈ zk_ws := zk_in 447 (by decide +kernel) (by decide +kernel)
theorem fd_X5_29 : Cond.fieldLink RX5 29 RX5 (TX5 9).2.1 (TX5 9).2.2.1 ∈ zk_ws := zk_in 448 (by decide +kernel) (by decide +kernel)
theorem fd_X5_32 : Cond.fieldLink RX5 32 RX5 (TX5 10).2.1 (TX5 10).2.2.1 ∈ zk_ws := zk_in 449 (by decide +kernel) (by decide +kernel)
theorem fd_X5_35 : Cond.fieldLink RX5 35 RX5 (TX5 18).2.1 (TX5 18).2.2.1 ∈ zk_ws := zk_in 457 (by decide +kernel) (by decide +kernel)
theorem fd_X5_38 : Cond.fieldLink RX5 38 RX5 (TX5 19).2.1 (TX5 19).2.2.1 ∈ zk_ws := zk_in 458 (by decide +kernel) (by decide +kernel)
theorem fd_X5_41 : Cond.fieldLink RX5 41 RX5 (TX5 20).2.1 (TX5 20).2.2.1 ∈ zk_ws := zk_in 459 (by decide +kernel) (by decide +kernel)
theorem fd_X5_44 : Cond.fieldLink RX5 44 RX5 (TX5 21).2.1 (TX5 21).2.2.1 ∈ zk_ws := zk_in 460 (by decide +kernel) (by decide +kernel)
theorem fd_X5_47 : Cond.fieldLink RX5 47 RX5 (TX5 22).2.1 (TX5 22).2.2.1 ∈ zk_ws := zk_in 461 (by decide +kernel) (by decide +kernel)
theorem fd_X5_7 : Cond.fieldLink RX5 7 RX5 (TX5 1).2.1 (TX5 1).2.2.1 ∈ zk_ws := zk_in 440 (by decide +kernel) (by decide +kernel)
set_option maxRecDepth 100000 in
theorem zn_X0 {X : zk_X} {a N : Nat} {z : Int32} {ws : va_W} (hz : ¬ z < 0) (hN : z.toNatClampNeg = N) (hb : N ≤ 100000) : zn_M X yX0_init cX0_init 2 (1, 21) (1, N) [.ref a, .int z] ((a, .inr (0, [.null, .int 0])) :: ws) (fun w => ∃ q1 : Nat, w = (q1, .inl (X.2.2.2.1 1, N, .inl (fun _ => 0))) :: (a, .inr (0, [.ref q1, .int 0])) :: ws) := by
  refine zn_M.intro rfl rfl rfl rfl ?_
  intro E hC hR
  refine zn_aload_n (k := 0) hC rfl ⟨dX0_init_0, rfl⟩ ?_
  refine zn_obj hC ⟨(Nat.le_of_ble_eq_true rfl), (Nat.le_of_ble_eq_true rfl)⟩ ob_X0 ob_ws (Nat.le_of_ble_eq_true rfl) ⟨dX0_init_1, rfl⟩ ?_
  refine zn_aload_n (k := 0) hC rfl ⟨dX0_init_4, rfl⟩ ?_
  refine zn_iload_n (k := 1) hC rfl ⟨dX0_init_5, rfl⟩ ?_
  refine zn_iconst hC ⟨dX0_init_6, rfl⟩ (x := 0) rfl ?_
  refine zn_mmax hC ⟨(Nat.le_of_ble_eq_true rfl), (Nat.le_of_ble_eq_true rfl)⟩ mm_X0_9 mmax_ws (Nat.le_of_ble_eq_true rfl) (Nat.le_of_ble_eq_true rfl) (Nat.zero_le _) ⟨dX0_init_7, rfl⟩ ?_
  rw [if_neg hz]
  refine zn_newa (atype := .byte) (ty := .byte) (t := 1) (a0 := (N, .inl fun _ => 0)) (N := N) hC rfl ac_byte rfl (fun _ => rfl) hz hN (by show N * 1 ≤ _; omega) (Nat.le_of_ble_eq_true rfl) (Nat.le_of_eq (Nat.zero_add N)) ⟨dX0_init_10, rfl⟩ ?_
  intro q1
  refine zn_put (ci := 0) (C := RX0) (T := TX0) (N := 2) (j := 0) (ty := tyX0 0) (ty0 := tyX0) 1 hC hR rfl uw_X0 ⟨tyX0_ok, nmX0⟩ (Nat.le_of_ble_eq_true rfl) fd_X0_15 rfl rfl rfl rfl (tyX0_ok 0 (Nat.le_of_ble_eq_true rfl)) rfl rfl (Nat.le_of_ble_eq_true rfl) ⟨dX0_init_12, rfl⟩ ?_
  simp only [List.set_cons_zero, List.set_cons_succ]
  exact zn_vret hC hR ⟨q1, rfl⟩ (Nat.le_of_ble_eq_true rfl) (Nat.le_of_eq (Nat.zero_add N)) ⟨dX0_init_15, rfl⟩
set_option maxRecDepth 100000 in
theorem zn_X3 {X : zk_X} {a : Nat} {ws : va_W} : zn_M X yX3_init cX3_init 1 (1, 20) (3, 272) [.ref a] ((a, .inr (3, [.null, .null, .null])) :: ws) (fun w => ∃ q1 q2 q3 : Nat, w = (q3, .inl (X.2.2.2.1 2, 16, .inr (.inl (fun _ => 0)))) :: (q2, .inl (X.2.2.2.1 2, 128, .inr (.inl (fun _ => 0)))) :: (q1, .inl (X.2.2.2.1 2, 128, .inr (.inl (fun _ => 0)))) :: (a, .inr (3, [.ref q1, .ref q2, .ref q3])) :: ws) := by
  refine zn_M.intro rfl rfl rfl rfl ?_
  intro E hC hR
  refine zn_aload_n (k := 0) hC rfl ⟨dX3_init_0, rfl⟩ ?_
  refine zn_obj hC ⟨(Nat.le_of_ble_eq_true rfl), (Nat.le_of_ble_eq_true rfl)⟩ ob_X3 ob_ws (Nat.le_of_ble_eq_true rfl) ⟨dX3_init_1, rfl⟩ ?_
  refine zn_aload_n (k := 0) hC rfl ⟨dX3_init_4, rfl⟩ ?_
  refine zn_sipush hC ⟨dX3_init_5, rfl⟩ (x := nI 128) (by decide +kernel) ?_
  refine zn_newa (atype := .long) (ty := .long) (t := 2) (a0 := (128, .inr (.inl fun _ => 0))) (N := 128) hC rfl ac_long rfl (fun _ => rfl) (by decide +kernel) (by decide +kernel) (Nat.le_of_ble_eq_true rfl) (Nat.le_of_ble_eq_true rfl) (Nat.le_of_ble_eq_true rfl) ⟨dX3_init_8, rfl⟩ ?_
  intro q1
  refine zn_put (ci := 3) (C := RX3) (T := TX3) (N := 3) (j := 0) (ty := tyX3 0) (ty0 := tyX3) 1 hC hR rfl uw_X3 ⟨tyX3_ok, nmX3⟩ (Nat.le_of_ble_eq_true rfl) fd_X3_9 rfl rfl rfl rfl (tyX3_ok 0 (Nat.le_of_ble_eq_true rfl)) rfl rfl (Nat.le_of_ble_eq_true rfl) ⟨dX3_init_10, rfl⟩ ?_
  simp only [List.set_cons_zero, List.set_cons_succ]
  refine zn_aload_n (k := 0) hC rfl ⟨dX3_init_13, rfl⟩ ?_
  refine zn_sipush hC ⟨dX3_init_14, rfl⟩ (x := nI 128) (by decide +kernel) ?_
  refine zn_newa (atype := .long) (ty := .long) (t := 2) (a0 := (128, .inr (.inl fun _ => 0))) (N := 128) hC rfl ac_long rfl (fun _ => rfl) (by decide +kernel) (by decide +kernel) (Nat.le_of_ble_eq_true rfl) (Nat.le_of_ble_eq_true rfl) (Nat.le_of_ble_eq_true rfl) ⟨dX3_init_17, rfl⟩ ?_
  intro q2
  refine zn_put (ci := 3) (C := RX3) (T := TX3) (N := 3) (j := 1) (ty := tyX3 1) (ty0 := tyX3) 2 hC hR rfl uw_X3 ⟨tyX3_ok, nmX3⟩ (Nat.le_of_ble_eq_true rfl) fd_X3_15 rfl rfl rfl rfl (tyX3_ok 1 (Nat.le_of_ble_eq_true rfl)) rfl rfl (Nat.le_of_ble_eq_true rfl) ⟨dX3_init_19, rfl⟩ ?_
  simp only [List.set_cons_zero, List.set_cons_succ]
  refine zn_aload_n (k := 0) hC rfl ⟨dX3_init_22, rfl⟩ ?_
  refine zn_bipush hC ⟨dX3_init_23, rfl⟩ (x := nI 16) (by decide +kernel) ?_
  refine zn_newa (atype := .long) (ty := .long) (t := 2) (a0 := (16, .inr (.inl fun _ => 0))) (N := 16) hC rfl ac_long rfl (fun _ => rfl) (by decide +kernel) (by decide +kernel) (Nat.le_of_ble_eq_true rfl) (Nat.le_of_ble_eq_true rfl) (Nat.le_of_ble_eq_true rfl) ⟨dX3_init_25, rfl⟩ ?_
  intro q3
  refine zn_put (ci := 3) (C := RX3) (T := TX3) (N := 3) (j := 2) (ty := tyX3 2) (ty0 := tyX3) 3 hC hR rfl uw_X3 ⟨tyX3_ok, nmX3⟩ (Nat.le_of_ble_eq_true rfl) fd_X3_18 rfl rfl rfl rfl (tyX3_ok 2 (Nat.le_of_ble_eq_true rfl)) rfl rfl (Nat.le_of_ble_eq_true rfl) ⟨dX3_init_27, rfl⟩ ?_
  simp only [List.set_cons_zero, List.set_cons_succ]
  exact zn_vret hC hR ⟨q1, q2, q3, rfl⟩ (Nat.le_of_ble_eq_true rfl) (Nat.le_of_ble_eq_true rfl) ⟨dX3_init_30, rfl⟩
set_option maxRecDepth 100000 in
theorem zn_X2 {X : zk_X} {a : Nat} {ws : va_W} : zn_M X yX2_init cX2_init 1 (2, 42) (7, 2096) [.ref a] ((a, .inr (2, [.null, .null, .null, .null, .null])) :: ws) (fun w => ∃ q1 q2 q3 q4 q5 q6 q7 : Nat, w = (q7, .inl (X.2.2.2.1 2, 16, .inr (.inl (fun _ => 0)))) :: (q6, .inl (X.2.2.2.1 2, 16, .inr (.inl (fun _ => 0)))) :: (q5, .inl (X.2.2.2.1 2, 8, .inr (.inl (fun _ => 0)))) :: (q4, .inl (X.2.2.2.1 1, 1024, .inl (fun _ => 0))) :: (q3, .inr (0, [.ref q4, .int 0])) :: (q2, .inl (X.2.2.2.1 1, 1028, .inl (fun _ => 0))) :: (q1, .inr (0, [.ref q2, .int 0])) :: (a, .inr (2, [.ref q1, .ref q3, .ref q5, .ref q6, .ref q7])) :: ws) := by
  refine zn_M.intro rfl rfl rfl rfl ?_
  intro E hC hR
  refine zn_aload_n (k := 0) hC rfl ⟨dX2_init_0, rfl⟩ ?_
  refine zn_obj hC ⟨(Nat.le_of_ble_eq_true rfl), (Nat.le_of_ble_eq_true rfl)⟩ ob_X2 ob_ws (Nat.le_of_ble_eq_true rfl) ⟨dX2_init_1, rfl⟩ ?_
  refine zn_aload_n (k := 0) hC rfl ⟨dX2_init_4, rfl⟩ ?_
  refine zn_new (ci := 0) (C := RX0) (T := TX0) (N := 2) (ty0 := tyX0) (fs := [.null, .int 0]) hC rfl uw_X0 tyX0_ok nw_X2_9 df_X0 (Nat.le_of_ble_eq_true rfl) (Nat.le_of_ble_eq_true rfl) ⟨dX2_init_5, rfl⟩ ?_
  intro q1
  refine zn_dup hC ⟨dX2_init_8, rfl⟩ rfl ?_
  refine zn_sipush hC ⟨dX2_init_9, rfl⟩ (x := nI 1028) (by decide +kernel) ?_
  refine zn_call hC ml_X2_13 in_X0 (zn_X0 (N := 1028) (z := nI 1028) (by decide +kernel) (by decide +kernel) (by decide +kernel)) ⟨(Nat.le_of_ble_eq_true rfl), (Nat.le_of_ble_eq_true rfl)⟩ rfl rfl (Nat.le_of_ble_eq_true rfl) (Nat.le_of_ble_eq_true rfl) (Nat.le_of_ble_eq_true rfl) ⟨dX2_init_12, rfl⟩ ?_
  rintro _ ⟨q2, rfl⟩
  refine zn_put (ci := 2) (C := RX2) (T := TX2) (N := 5) (j := 0) (ty := tyX2 0) (ty0 := tyX2) 2 hC hR rfl uw_X2 ⟨tyX2_ok, nmX2⟩ (Nat.le_of_ble_eq_true rfl) fd_X2_16 rfl rfl rfl rfl (tyX2_ok 0 (Nat.le_of_ble_eq_true rfl)) rfl rfl (Nat.le_of_ble_eq_true rfl) ⟨dX2_init_15, rfl⟩ ?_
  simp only [List.set_cons_zero, List.set_cons_succ]
  refine zn_aload_n (k := 0) hC rfl ⟨dX2_init_18, rfl⟩ ?_
  refine zn_new (ci := 0) (C := RX0) (T := TX0) (N := 2) (ty0 := tyX0) (fs := [.null, .int 0]) hC rfl uw_X0 tyX0_ok nw_X2_9 df_X0 (Nat.le_of_ble_eq_true rfl) (Nat.le_of_ble_eq_true rfl) ⟨dX2_init_19, rfl⟩ ?_
  intro q3
  refine zn_dup hC ⟨dX2_init_22, rfl⟩ rfl ?_
  refine zn_sipush hC ⟨dX2_init_23, rfl⟩ (x := nI 1024) (by decide +kernel) ?_
  refine zn_call hC ml_X2_13 in_X0 (zn_X0 (N := 1024) (z := nI 1024) (by decide +kernel) (by decide +kernel) (by decide +kernel)) ⟨(Nat.le_of_ble_eq_true rfl), (Nat.le_of_ble_eq_true rfl)⟩ rfl rfl (Nat.le_of_ble_eq_true rfl) (Nat.le_of_ble_eq_true rfl) (Nat.le_of_ble_eq_true rfl) ⟨dX2_init_26, rfl⟩ ?_
  rintro _ ⟨q4, rfl⟩
  refine zn_put (ci := 2) (C := RX2) (T := TX2) (N := 5) (j := 1) (ty := tyX2 1) (ty0 := tyX2) 4 hC hR rfl uw_X2 ⟨tyX2_ok, nmX2⟩ (Nat.le_of_ble_eq_true rfl) fd_X2_20 rfl rfl rfl rfl (tyX2_ok 1 (Nat.le_of_ble_eq_true rfl)) rfl rfl (Nat.le_of_ble_eq_true rfl) ⟨dX2_init_29, rfl⟩ ?_
  simp only [List.set_cons_zero, List.set_cons_succ]
  refine zn_aload_n (k := 0) hC rfl ⟨dX2_init_32, rfl⟩ ?_
  refine zn_bipush hC ⟨dX2_init_33, rfl⟩ (x := nI 8) (by decide +kernel) ?_
  refine zn_newa (atype := .long) (ty := .long) (t := 2) (a0 := (8, .inr (.inl fun _ => 0))) (N := 8) hC rfl ac_long rfl (fun _ => rfl) (by decide +kernel) (by decide +kernel) (Nat.le_of_ble_eq_true rfl) (Nat.le_of_ble_eq_true rfl) (Nat.le_of_ble_eq_true rfl) ⟨dX2_init_35, rfl⟩ ?_
  intro q5
  refine zn_put (ci := 2) (C := RX2) (T := TX2) (N := 5) (j := 2) (ty := tyX2 2) (ty0 := tyX2) 5 hC hR rfl uw_X2 ⟨tyX2_ok, nmX2⟩ (Nat.le_of_ble_eq_true rfl) fd_X2_23 rfl rfl rfl rfl (tyX2_ok 2 (Nat.le_of_ble_eq_true rfl)) rfl rfl (Nat.le_of_ble_eq_true rfl) ⟨dX2_init_37, rfl⟩ ?_
  simp only [List.set_cons_zero, List.set_cons_succ]
  refine zn_aload_n (k := 0) hC rfl ⟨dX2_init_40, rfl⟩ ?_
  refine zn_bipush hC ⟨dX2_init_41, rfl⟩ (x := nI 16) (by decide +kernel) ?_
  refine zn_newa (atype := .long) (ty := .long) (t := 2) (a0 := (16, .inr (.inl fun _ => 0))) (N := 16) hC rfl ac_long rfl (fun _ => rfl) (by decide +kernel) (by decide +kernel) (Nat.le_of_ble_eq_true rfl) (Nat.le_of_ble_eq_true rfl) (Nat.le_of_ble_eq_true rfl) ⟨dX2_init_43, rfl⟩ ?_
  intro q6
  refine zn_put (ci := 2) (C := RX2) (T := TX2) (N := 5) (j := 3) (ty := tyX2 3) (ty0 := tyX2) 6 hC hR rfl uw_X2 ⟨tyX2_ok, nmX2⟩ (Nat.le_of_ble_eq_true rfl) fd_X2_27 rfl rfl rfl rfl (tyX2_ok 3 (Nat.le_of_ble_eq_true rfl)) rfl rfl (Nat.le_of_ble_eq_true rfl) ⟨dX2_init_45, rfl⟩ ?_
  simp only [List.set_cons_zero, List.set_cons_succ]
  refine zn_aload_n (k := 0) hC rfl ⟨dX2_init_48, rfl⟩ ?_
  refine zn_bipush hC ⟨dX2_init_49, rfl⟩ (x := nI 16) (by decide +kernel) ?_
  refine zn_newa (atype := .long) (ty := .long) (t := 2) (a0 := (16, .inr (.inl fun _ => 0))) (N := 16) hC rfl ac_long rfl (fun _ => rfl) (by decide +kernel) (by decide +kernel) (Nat.le_of_ble_eq_true rfl) (Nat.le_of_ble_eq_true rfl) (Nat.le_of_ble_eq_true rfl) ⟨dX2_init_51, rfl⟩ ?_
  intro q7
  refine zn_put (ci := 2) (C := RX2) (T := TX2) (N := 5) (j := 4) (ty := tyX2 4) (ty0 := tyX2) 7 hC hR rfl uw_X2 ⟨tyX2_ok, nmX2⟩ (Nat.le_of_ble_eq_true rfl) fd_X2_30 rfl rfl rfl rfl (tyX2_ok 4 (Nat.le_of_ble_eq_true rfl)) rfl rfl (Nat.le_of_ble_eq_true rfl) ⟨dX2_init_53, rfl⟩ ?_
  simp only [List.set_cons_zero, List.set_cons_succ]
  exact zn_vret hC hR ⟨q1, q2, q3, q4, q5, q6, q7, rfl⟩ (Nat.le_of_ble_eq_true rfl) (Nat.le_of_ble_eq_true rfl) ⟨dX2_init_56, rfl⟩
