set_option maxRecDepth 100000 in
theorem zn_X1 {X : zk_X} {a : Nat} {ws : va_W} : zn_M X yX1_init cX1_init 1 (2, 40) (135, 17043) [.ref a] ((a, .inr (1, [.null, .null, .null, .null, .int 0, .int 0, .int 0, .int 0, .int 0, .int 0, .int 0, .int 0, .int 0, .int 0])) :: ws) (fun w => ∃ q1 q2 q3 q4 q5 q6 q7 : Nat, w = (q7, .inl (X.2.2.2.1 2, 16, .inr (.inl (fun _ => 0)))) :: (q6, .inl (X.2.2.2.1 2, 128, .inr (.inl (fun _ => 0)))) :: (q5, .inl (X.2.2.2.1 2, 128, .inr (.inl (fun _ => 0)))) :: (q4, .inr (3, [.ref q5, .ref q6, .ref q7])) :: (q3, .inl (X.2.2.2.1 2, 128, .inr (.inl (fun _ => 0)))) :: (q2, .inl (X.2.2.2.1 2, 128, .inr (.inl (fun _ => 0)))) :: (q1, .inl (X.2.2.2.1 4, 128, .inr (.inr (.inr (.inr (fun i => some (q1 + 1 + i))))))) :: (a, .inr (1, [.ref q1, .ref q2, .ref q3, .ref q4, .int 0, .int 0, .int 0, .int 0, .int 0, .int 0, .int 0, .int 0, .int 0, .int 0])) :: (zn_rows X q1 128 128 ++ ws)) := by
  refine zn_M.intro rfl rfl rfl rfl ?_
  intro E hC hR
  refine zn_aload_n (k := 0) hC rfl ⟨dX1_init_0, rfl⟩ ?_
  refine zn_obj hC ⟨(Nat.le_of_ble_eq_true rfl), (Nat.le_of_ble_eq_true rfl)⟩ ob_X1 ob_ws (Nat.le_of_ble_eq_true rfl) ⟨dX1_init_1, rfl⟩ ?_
  refine zn_aload_n (k := 0) hC rfl ⟨dX1_init_4, rfl⟩ ?_
  refine zn_sipush hC ⟨dX1_init_5, rfl⟩ (x := nI 128) (by decide +kernel) ?_
  refine zn_sipush hC ⟨dX1_init_8, rfl⟩ (x := nI 128) (by decide +kernel) ?_
  refine zn_mna (N := 128) (K := 128) hC cl_X1_9 ac_long (by decide +kernel) (by decide +kernel) (by decide +kernel) (by decide +kernel) (Nat.le_of_ble_eq_true rfl) (Nat.le_of_ble_eq_true rfl) (Nat.le_of_ble_eq_true rfl) (Nat.le_of_ble_eq_true rfl) ⟨dX1_init_11, rfl⟩ ?_
  intro q1
  refine zn_perm (w' := (q1, .inl (X.2.2.2.1 4, 128, .inr (.inr (.inr (.inr (fun i => some (q1 + 1 + i))))))) :: (a, .inr (1, [.null, .null, .null, .null, .int 0, .int 0, .int 0, .int 0, .int 0, .int 0, .int 0, .int 0, .int 0, .int 0])) :: (zn_rows X q1 128 128 ++ ws)) (List.Perm.cons _ List.perm_middle) ?_
  refine zn_put (ci := 1) (C := RX1) (T := TX1) (N := 14) (j := 0) (ty := tyX1 0) (ty0 := tyX1) 1 hC hR rfl uw_X1 ⟨tyX1_ok, nmX1⟩ (Nat.le_of_ble_eq_true rfl) fd_X1_11 rfl rfl rfl rfl (tyX1_ok 0 (Nat.le_of_ble_eq_true rfl)) rfl rfl (Nat.le_of_ble_eq_true rfl) ⟨dX1_init_15, rfl⟩ ?_
  simp only [List.set_cons_zero, List.set_cons_succ]
  refine zn_aload_n (k := 0) hC rfl ⟨dX1_init_18, rfl⟩ ?_
  refine zn_sipush hC ⟨dX1_init_19, rfl⟩ (x := nI 128) (by decide +kernel) ?_
  refine zn_newa (atype := .long) (ty := .long) (t := 2) (a0 := (128, .inr (.inl fun _ => 0))) (N := 128) hC rfl ac_long rfl (fun _ => rfl) (by decide +kernel) (by decide +kernel) (Nat.le_of_ble_eq_true rfl) (Nat.le_of_ble_eq_true rfl) (Nat.le_of_ble_eq_true rfl) ⟨dX1_init_22, rfl⟩ ?_
  intro q2
  refine zn_put (ci := 1) (C := RX1) (T := TX1) (N := 14) (j := 1) (ty := tyX1 1) (ty0 := tyX1) 2 hC hR rfl uw_X1 ⟨tyX1_ok, nmX1⟩ (Nat.le_of_ble_eq_true rfl) fd_X1_16 rfl rfl rfl rfl (tyX1_ok 1 (Nat.le_of_ble_eq_true rfl)) rfl rfl (Nat.le_of_ble_eq_true rfl) ⟨dX1_init_24, rfl⟩ ?_
  simp only [List.set_cons_zero, List.set_cons_succ]
  refine zn_aload_n (k := 0) hC rfl ⟨dX1_init_27, rfl⟩ ?_
  refine zn_sipush hC ⟨dX1_init_28, rfl⟩ (x := nI 128) (by decide +kernel) ?_
  refine zn_newa (atype := .long) (ty := .long) (t := 2) (a0 := (128, .inr (.inl fun _ => 0))) (N := 128) hC rfl ac_long rfl (fun _ => rfl) (by decide +kernel) (by decide +kernel) (Nat.le_of_ble_eq_true rfl) (Nat.le_of_ble_eq_true rfl) (Nat.le_of_ble_eq_true rfl) ⟨dX1_init_31, rfl⟩ ?_
  intro q3
  refine zn_put (ci := 1) (C := RX1) (T := TX1) (N := 14) (j := 2) (ty := tyX1 2) (ty0 := tyX1) 3 hC hR rfl uw_X1 ⟨tyX1_ok, nmX1⟩ (Nat.le_of_ble_eq_true rfl) fd_X1_20 rfl rfl rfl rfl (tyX1_ok 2 (Nat.le_of_ble_eq_true rfl)) rfl rfl (Nat.le_of_ble_eq_true rfl) ⟨dX1_init_33, rfl⟩ ?_
  simp only [List.set_cons_zero, List.set_cons_succ]
  refine zn_aload_n (k := 0) hC rfl ⟨dX1_init_36, rfl⟩ ?_
  refine zn_new (ci := 3) (C := RX3) (T := TX3) (N := 3) (ty0 := tyX3) (fs := [.null, .null, .null]) hC rfl uw_X3 tyX3_ok nw_X1_23 df_X3 (Nat.le_of_ble_eq_true rfl) (Nat.le_of_ble_eq_true rfl) ⟨dX1_init_37, rfl⟩ ?_
  intro q4
  refine zn_dup hC ⟨dX1_init_40, rfl⟩ rfl ?_
  refine zn_call hC ml_X1_25 in_X3 (zn_X3 (a := q4)) ⟨(Nat.le_of_ble_eq_true rfl), (Nat.le_of_ble_eq_true rfl)⟩ rfl rfl (Nat.le_of_ble_eq_true rfl) (Nat.le_of_ble_eq_true rfl) (Nat.le_of_ble_eq_true rfl) ⟨dX1_init_41, rfl⟩ ?_
  rintro _ ⟨q5, q6, q7, rfl⟩
  refine zn_put (ci := 1) (C := RX1) (T := TX1) (N := 14) (j := 3) (ty := tyX1 3) (ty0 := tyX1) 7 hC hR rfl uw_X1 ⟨tyX1_ok, nmX1⟩ (Nat.le_of_ble_eq_true rfl) fd_X1_26 rfl rfl rfl rfl (tyX1_ok 3 (Nat.le_of_ble_eq_true rfl)) rfl rfl (Nat.le_of_ble_eq_true rfl) ⟨dX1_init_44, rfl⟩ ?_
  simp only [List.set_cons_zero, List.set_cons_succ]
  exact zn_vret hC hR ⟨q1, q2, q3, q4, q5, q6, q7, rfl⟩ (Nat.le_of_ble_eq_true rfl) (Nat.le_of_ble_eq_true rfl) ⟨dX1_init_47, rfl⟩
