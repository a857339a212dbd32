theorem zn_rows_eq {X : zk_X} {q : Nat} {l : List Nat} : zn_rows X q 128 128 = (List.range 128).map (fun i => (zn_ad q l (38 + i), zk_e (zn_X X (zn_ad q l) []) (fun _ _ => 0) (fun _ _ => 0) (38 + i) (zk_sh 0 (38 + i)))) := by
  refine List.map_congr_left fun i _ => ?_
  show (q + 1 + i, _) = (zn_ad q l (38 + i), zk_e (zn_X X (zn_ad q l) []) (fun _ _ => 0) (fun _ _ => 0) (38 + i) (zk_sh 0 (38 + i)))
  rw [zn_ad_far, zn_sh_far]
  rfl
set_option maxRecDepth 100000 in
theorem zn_X4 {X : zk_X} {a : Nat} {ws : va_W} : zn_M X yX4_init cX4_init 2 (3, 62) (165, 20850) [.ref a] ((a, .inr (4, [.null, .null, .null, .null, .null])) :: ws) (fun w => ∃ ad : Nat → Nat, ad 0 = a ∧ w.Perm (zn_cells 0 X ad ++ ws)) := by
  refine zn_M.intro rfl rfl rfl rfl ?_
  intro E hC hR
  refine zn_aload_n (k := 0) hC rfl ⟨dX4_init_0, rfl⟩ ?_
  refine zn_obj hC ⟨(Nat.le_of_ble_eq_true rfl), (Nat.le_of_ble_eq_true rfl)⟩ ob_X4 ob_ws (Nat.le_of_ble_eq_true rfl) ⟨dX4_init_1, rfl⟩ ?_
  refine zn_aload_n (k := 0) hC rfl ⟨dX4_init_4, rfl⟩ ?_
  refine zn_bipush hC ⟨dX4_init_5, rfl⟩ (x := nI 8) (by decide +kernel) ?_
  refine zn_newq (t := 3) (C := RX0) (N := 8) hC cl_X4_9 rfl rfl (by decide +kernel) (by decide +kernel) (Nat.le_of_ble_eq_true rfl) (Nat.le_of_ble_eq_true rfl) (Nat.le_of_ble_eq_true rfl) ⟨dX4_init_7, rfl⟩ ?_
  intro q1
  refine zn_put (ci := 4) (C := RX4) (T := TX4) (N := 5) (j := 0) (ty := tyX4 0) (ty0 := tyX4) 1 hC hR rfl uw_X4 ⟨tyX4_ok, nmX4⟩ (Nat.le_of_ble_eq_true rfl) fd_X4_11 rfl rfl rfl rfl (tyX4_ok 0 (Nat.le_of_ble_eq_true rfl)) rfl rfl (Nat.le_of_ble_eq_true rfl) ⟨dX4_init_10, rfl⟩ ?_
  simp only [List.set_cons_zero, List.set_cons_succ]
  refine zn_aload_n (k := 0) hC rfl ⟨dX4_init_13, rfl⟩ ?_
  refine zn_new (ci := 0) (C := RX0) (T := TX0) (N := 2) (ty0 := tyX0) (fs := [.null, .int 0]) hC rfl uw_X0 tyX0_ok nw_X4_9 df_X0 (Nat.le_of_ble_eq_true rfl) (Nat.le_of_ble_eq_true rfl) ⟨dX4_init_14, rfl⟩ ?_
  intro q2
  refine zn_dup hC ⟨dX4_init_17, rfl⟩ rfl ?_
  refine zn_iconst hC ⟨dX4_init_18, rfl⟩ (x := nI 0) (by decide +kernel) ?_
  refine zn_call hC ml_X4_15 in_X0 (zn_X0 (N := 0) (z := nI 0) (by decide +kernel) (by decide +kernel) (by decide +kernel)) ⟨(Nat.le_of_ble_eq_true rfl), (Nat.le_of_ble_eq_true rfl)⟩ rfl rfl (Nat.le_of_ble_eq_true rfl) (Nat.le_of_ble_eq_true rfl) (Nat.le_of_ble_eq_true rfl) ⟨dX4_init_19, rfl⟩ ?_
  rintro _ ⟨q3, rfl⟩
  refine zn_put (ci := 4) (C := RX4) (T := TX4) (N := 5) (j := 1) (ty := tyX4 1) (ty0 := tyX4) 3 hC hR rfl uw_X4 ⟨tyX4_ok, nmX4⟩ (Nat.le_of_ble_eq_true rfl) fd_X4_18 rfl rfl rfl rfl (tyX4_ok 1 (Nat.le_of_ble_eq_true rfl)) rfl rfl (Nat.le_of_ble_eq_true rfl) ⟨dX4_init_22, rfl⟩ ?_
  simp only [List.set_cons_zero, List.set_cons_succ]
  refine zn_aload_n (k := 0) hC rfl ⟨dX4_init_25, rfl⟩ ?_
  refine zn_new (ci := 0) (C := RX0) (T := TX0) (N := 2) (ty0 := tyX0) (fs := [.null, .int 0]) hC rfl uw_X0 tyX0_ok nw_X4_9 df_X0 (Nat.le_of_ble_eq_true rfl) (Nat.le_of_ble_eq_true rfl) ⟨dX4_init_26, rfl⟩ ?_
  intro q4
  refine zn_dup hC ⟨dX4_init_29, rfl⟩ rfl ?_
  refine zn_bipush hC ⟨dX4_init_30, rfl⟩ (x := nI 64) (by decide +kernel) ?_
  refine zn_call hC ml_X4_15 in_X0 (zn_X0 (N := 64) (z := nI 64) (by decide +kernel) (by decide +kernel) (by decide +kernel)) ⟨(Nat.le_of_ble_eq_true rfl), (Nat.le_of_ble_eq_true rfl)⟩ rfl rfl (Nat.le_of_ble_eq_true rfl) (Nat.le_of_ble_eq_true rfl) (Nat.le_of_ble_eq_true rfl) ⟨dX4_init_32, rfl⟩ ?_
  rintro _ ⟨q5, rfl⟩
  refine zn_put (ci := 4) (C := RX4) (T := TX4) (N := 5) (j := 2) (ty := tyX4 2) (ty0 := tyX4) 5 hC hR rfl uw_X4 ⟨tyX4_ok, nmX4⟩ (Nat.le_of_ble_eq_true rfl) fd_X4_22 rfl rfl rfl rfl (tyX4_ok 2 (Nat.le_of_ble_eq_true rfl)) rfl rfl (Nat.le_of_ble_eq_true rfl) ⟨dX4_init_35, rfl⟩ ?_
  simp only [List.set_cons_zero, List.set_cons_succ]
  refine zn_aload_n (k := 0) hC rfl ⟨dX4_init_38, rfl⟩ ?_
  refine zn_new (ci := 2) (C := RX2) (T := TX2) (N := 5) (ty0 := tyX2) (fs := [.null, .null, .null, .null, .null]) hC rfl uw_X2 tyX2_ok nw_X4_25 df_X2 (Nat.le_of_ble_eq_true rfl) (Nat.le_of_ble_eq_true rfl) ⟨dX4_init_39, rfl⟩ ?_
  intro q6
  refine zn_dup hC ⟨dX4_init_42, rfl⟩ rfl ?_
  refine zn_call hC ml_X4_27 in_X2 (zn_X2 (a := q6)) ⟨(Nat.le_of_ble_eq_true rfl), (Nat.le_of_ble_eq_true rfl)⟩ rfl rfl (Nat.le_of_ble_eq_true rfl) (Nat.le_of_ble_eq_true rfl) (Nat.le_of_ble_eq_true rfl) ⟨dX4_init_43, rfl⟩ ?_
  rintro _ ⟨q7, q8, q9, q10, q11, q12, q13, rfl⟩
  refine zn_put (ci := 4) (C := RX4) (T := TX4) (N := 5) (j := 3) (ty := tyX4 3) (ty0 := tyX4) 13 hC hR rfl uw_X4 ⟨tyX4_ok, nmX4⟩ (Nat.le_of_ble_eq_true rfl) fd_X4_28 rfl rfl rfl rfl (tyX4_ok 3 (Nat.le_of_ble_eq_true rfl)) rfl rfl (Nat.le_of_ble_eq_true rfl) ⟨dX4_init_46, rfl⟩ ?_
  simp only [List.set_cons_zero, List.set_cons_succ]
  refine zn_aload_n (k := 0) hC rfl ⟨dX4_init_49, rfl⟩ ?_
  refine zn_new (ci := 1) (C := RX1) (T := TX1) (N := 14) (ty0 := tyX1) (fs := [.null, .null, .null, .null, .int 0, .int 0, .int 0, .int 0, .int 0, .int 0, .int 0, .int 0, .int 0, .int 0]) hC rfl uw_X1 tyX1_ok nw_X4_32 df_X1 (Nat.le_of_ble_eq_true rfl) (Nat.le_of_ble_eq_true rfl) ⟨dX4_init_50, rfl⟩ ?_
  intro q14
  refine zn_dup hC ⟨dX4_init_53, rfl⟩ rfl ?_
  refine zn_call hC ml_X4_34 in_X1 (zn_X1 (a := q14)) ⟨(Nat.le_of_ble_eq_true rfl), (Nat.le_of_ble_eq_true rfl)⟩ rfl rfl (Nat.le_of_ble_eq_true rfl) (Nat.le_of_ble_eq_true rfl) (Nat.le_of_ble_eq_true rfl) ⟨dX4_init_54, rfl⟩ ?_
  rintro _ ⟨q15, q16, q17, q18, q19, q20, q21, rfl⟩
  refine zn_perm (w' := (q21, .inl (X.2.2.2.1 2, 16, .inr (.inl (fun _ => 0)))) :: (q20, .inl (X.2.2.2.1 2, 128, .inr (.inl (fun _ => 0)))) :: (q19, .inl (X.2.2.2.1 2, 128, .inr (.inl (fun _ => 0)))) :: (q18, .inr (3, [.ref q19, .ref q20, .ref q21])) :: (q17, .inl (X.2.2.2.1 2, 128, .inr (.inl (fun _ => 0)))) :: (q16, .inl (X.2.2.2.1 2, 128, .inr (.inl (fun _ => 0)))) :: (q15, .inl (X.2.2.2.1 4, 128, .inr (.inr (.inr (.inr (fun i => some (q15 + 1 + i))))))) :: (q14, .inr (1, [.ref q15, .ref q16, .ref q17, .ref q18, .int 0, .int 0, .int 0, .int 0, .int 0, .int 0, .int 0, .int 0, .int 0, .int 0])) :: (q13, .inl (X.2.2.2.1 2, 16, .inr (.inl (fun _ => 0)))) :: (q12, .inl (X.2.2.2.1 2, 16, .inr (.inl (fun _ => 0)))) :: (q11, .inl (X.2.2.2.1 2, 8, .inr (.inl (fun _ => 0)))) :: (q10, .inl (X.2.2.2.1 1, 1024, .inl (fun _ => 0))) :: (q9, .inr (0, [.ref q10, .int 0])) :: (q8, .inl (X.2.2.2.1 1, 1028, .inl (fun _ => 0))) :: (q7, .inr (0, [.ref q8, .int 0])) :: (q6, .inr (2, [.ref q7, .ref q9, .ref q11, .ref q12, .ref q13])) :: (q5, .inl (X.2.2.2.1 1, 64, .inl (fun _ => 0))) :: (q4, .inr (0, [.ref q5, .int 0])) :: (q3, .inl (X.2.2.2.1 1, 0, .inl (fun _ => 0))) :: (q2, .inr (0, [.ref q3, .int 0])) :: (q1, .inl (X.2.2.2.1 3, 8, .inr (.inr (.inr (.inr (fun _ => none)))))) :: (a, .inr (4, [.ref q1, .ref q2, .ref q4, .ref q6, .null])) :: (zn_rows X q15 128 128 ++ ws)) (List.Perm.append_left ([(q21, .inl (X.2.2.2.1 2, 16, .inr (.inl (fun _ => 0)))), (q20, .inl (X.2.2.2.1 2, 128, .inr (.inl (fun _ => 0)))), (q19, .inl (X.2.2.2.1 2, 128, .inr (.inl (fun _ => 0)))), (q18, .inr (3, [.ref q19, .ref q20, .ref q21])), (q17, .inl (X.2.2.2.1 2, 128, .inr (.inl (fun _ => 0)))), (q16, .inl (X.2.2.2.1 2, 128, .inr (.inl (fun _ => 0)))), (q15, .inl (X.2.2.2.1 4, 128, .inr (.inr (.inr (.inr (fun i => some (q15 + 1 + i))))))), (q14, .inr (1, [.ref q15, .ref q16, .ref q17, .ref q18, .int 0, .int 0, .int 0, .int 0, .int 0, .int 0, .int 0, .int 0, .int 0, .int 0]))] : va_W) (List.perm_append_comm_assoc (zn_rows X q15 128 128) ([(q13, .inl (X.2.2.2.1 2, 16, .inr (.inl (fun _ => 0)))), (q12, .inl (X.2.2.2.1 2, 16, .inr (.inl (fun _ => 0)))), (q11, .inl (X.2.2.2.1 2, 8, .inr (.inl (fun _ => 0)))), (q10, .inl (X.2.2.2.1 1, 1024, .inl (fun _ => 0))), (q9, .inr (0, [.ref q10, .int 0])), (q8, .inl (X.2.2.2.1 1, 1028, .inl (fun _ => 0))), (q7, .inr (0, [.ref q8, .int 0])), (q6, .inr (2, [.ref q7, .ref q9, .ref q11, .ref q12, .ref q13])), (q5, .inl (X.2.2.2.1 1, 64, .inl (fun _ => 0))), (q4, .inr (0, [.ref q5, .int 0])), (q3, .inl (X.2.2.2.1 1, 0, .inl (fun _ => 0))), (q2, .inr (0, [.ref q3, .int 0])), (q1, .inl (X.2.2.2.1 3, 8, .inr (.inr (.inr (.inr (fun _ => none)))))), (a, .inr (4, [.ref q1, .ref q2, .ref q4, .ref q6, .null]))] : va_W) ws)) ?_
  refine zn_put (ci := 4) (C := RX4) (T := TX4) (N := 5) (j := 4) (ty := tyX4 4) (ty0 := tyX4) 21 hC hR rfl uw_X4 ⟨tyX4_ok, nmX4⟩ (Nat.le_of_ble_eq_true rfl) fd_X4_35 rfl rfl rfl rfl (tyX4_ok 4 (Nat.le_of_ble_eq_true rfl)) rfl rfl (Nat.le_of_ble_eq_true rfl) ⟨dX4_init_57, rfl⟩ ?_
  simp only [List.set_cons_zero, List.set_cons_succ]
  refine zn_iconst hC ⟨dX4_init_60, rfl⟩ (x := nI 0) (by decide +kernel) ?_
  refine zn_istoreNG (k := 1) hC ⟨dX4_init_61, rfl⟩ (Nat.le_of_ble_eq_true rfl) (Or.inr rfl) ?_
  refine zn_X4_it (i := 0) (B := fun _ => True) 21 20 hC (by decide +kernel) (by decide +kernel) (vp_in_nI (by decide) (by decide)) (by decide +kernel) rfl rfl (Nat.le_of_ble_eq_true rfl) (Nat.le_of_ble_eq_true rfl) ?_
  intro q22 q23
  simp only [List.set_cons_zero, List.set_cons_succ]
  refine zn_X4_it (i := 1) (B := fun _ => True) 23 22 hC (by decide +kernel) (by decide +kernel) (vp_in_nI (by decide) (by decide)) (by decide +kernel) rfl rfl (Nat.le_of_ble_eq_true rfl) (Nat.le_of_ble_eq_true rfl) ?_
  intro q24 q25
  simp only [List.set_cons_zero, List.set_cons_succ]
  refine zn_X4_it (i := 2) (B := fun _ => True) 25 24 hC (by decide +kernel) (by decide +kernel) (vp_in_nI (by decide) (by decide)) (by decide +kernel) rfl rfl (Nat.le_of_ble_eq_true rfl) (Nat.le_of_ble_eq_true rfl) ?_
  intro q26 q27
  simp only [List.set_cons_zero, List.set_cons_succ]
  refine zn_X4_it (i := 3) (B := fun _ => True) 27 26 hC (by decide +kernel) (by decide +kernel) (vp_in_nI (by decide) (by decide)) (by decide +kernel) rfl rfl (Nat.le_of_ble_eq_true rfl) (Nat.le_of_ble_eq_true rfl) ?_
  intro q28 q29
  simp only [List.set_cons_zero, List.set_cons_succ]
  refine zn_X4_it (i := 4) (B := fun _ => True) 29 28 hC (by decide +kernel) (by decide +kernel) (vp_in_nI (by decide) (by decide)) (by decide +kernel) rfl rfl (Nat.le_of_ble_eq_true rfl) (Nat.le_of_ble_eq_true rfl) ?_
  intro q30 q31
  simp only [List.set_cons_zero, List.set_cons_succ]
  refine zn_X4_it (i := 5) (B := fun _ => True) 31 30 hC (by decide +kernel) (by decide +kernel) (vp_in_nI (by decide) (by decide)) (by decide +kernel) rfl rfl (Nat.le_of_ble_eq_true rfl) (Nat.le_of_ble_eq_true rfl) ?_
  intro q32 q33
  simp only [List.set_cons_zero, List.set_cons_succ]
  refine zn_X4_it (i := 6) (B := fun _ => True) 33 32 hC (by decide +kernel) (by decide +kernel) (vp_in_nI (by decide) (by decide)) (by decide +kernel) rfl rfl (Nat.le_of_ble_eq_true rfl) (Nat.le_of_ble_eq_true rfl) ?_
  intro q34 q35
  simp only [List.set_cons_zero, List.set_cons_succ]
  refine zn_X4_it (i := 7) (B := fun _ => True) 35 34 hC (by decide +kernel) (by decide +kernel) (vp_in_nI (by decide) (by decide)) (by decide +kernel) rfl rfl (Nat.le_of_ble_eq_true rfl) (Nat.le_of_ble_eq_true rfl) ?_
  intro q36 q37
  simp only [List.set_cons_zero, List.set_cons_succ]
  refine zn_iload_n (k := 1) hC rfl ⟨dX4_init_62, rfl⟩ ?_
  refine zn_bipush hC ⟨dX4_init_63, rfl⟩ (x := nI 8) (by decide +kernel) ?_
  refine zn_icmp_ge hC ⟨dX4_init_65, rfl⟩ 90 rfl (fun _ => ?_) (fun h => absurd (by decide +kernel) h)
  refine zn_ext (fun i => some ((zn_ad q15 [a, q1, q22, q24, q26, q28, q30, q32, q34, q36, q23, q25, q27, q29, q31, q33, q35, q37, q2, q3, q4, q5, q6, q7, q8, q9, q10, q11, q12, q13, q14, q15, q16, q17, q18, q19, q20, q21]) (2 + i))) 36 rfl (fun j hj => zn_8 (f := (va_up (va_up (va_up (va_up (va_up (va_up (va_up (va_up (fun _ => none) 0 (some q22)) 1 (some q24)) 2 (some q26)) 3 (some q28)) 4 (some q30)) 5 (some q32)) 6 (some q34)) 7 (some q36))) (g := fun i => some ((zn_ad q15 [a, q1, q22, q24, q26, q28, q30, q32, q34, q36, q23, q25, q27, q29, q31, q33, q35, q37, q2, q3, q4, q5, q6, q7, q8, q9, q10, q11, q12, q13, q14, q15, q16, q17, q18, q19, q20, q21]) (2 + i))) j hj rfl rfl rfl rfl rfl rfl rfl rfl) ?_
  simp only [List.set_cons_zero, List.set_cons_succ]
  refine zn_ext (fun i => some ((zn_ad q15 [a, q1, q22, q24, q26, q28, q30, q32, q34, q36, q23, q25, q27, q29, q31, q33, q35, q37, q2, q3, q4, q5, q6, q7, q8, q9, q10, q11, q12, q13, q14, q15, q16, q17, q18, q19, q20, q21]) (38 + i))) 22 rfl (fun j hj => (congrArg some (zn_ad_far j)).symm) ?_
  simp only [List.set_cons_zero, List.set_cons_succ]
  refine zn_vret hC hR ⟨(zn_ad q15 [a, q1, q22, q24, q26, q28, q30, q32, q34, q36, q23, q25, q27, q29, q31, q33, q35, q37, q2, q3, q4, q5, q6, q7, q8, q9, q10, q11, q12, q13, q14, q15, q16, q17, q18, q19, q20, q21]), rfl, ?_⟩ (Nat.le_of_ble_eq_true rfl) (Nat.le_of_ble_eq_true rfl) ⟨dX4_init_90, rfl⟩
  show List.Perm _ ((List.range 166).map _ ++ ws)
  rw [zn_range, List.append_assoc]
  exact List.Perm.append (l₁ := ([(q37, .inl (X.2.2.2.1 1, 200, .inl (fun _ => 0))), (q36, .inr (0, [.ref q37, .int 0])), (q35, .inl (X.2.2.2.1 1, 200, .inl (fun _ => 0))), (q34, .inr (0, [.ref q35, .int 0])), (q33, .inl (X.2.2.2.1 1, 200, .inl (fun _ => 0))), (q32, .inr (0, [.ref q33, .int 0])), (q31, .inl (X.2.2.2.1 1, 200, .inl (fun _ => 0))), (q30, .inr (0, [.ref q31, .int 0])), (q29, .inl (X.2.2.2.1 1, 200, .inl (fun _ => 0))), (q28, .inr (0, [.ref q29, .int 0])), (q27, .inl (X.2.2.2.1 1, 200, .inl (fun _ => 0))), (q26, .inr (0, [.ref q27, .int 0])), (q25, .inl (X.2.2.2.1 1, 200, .inl (fun _ => 0))), (q24, .inr (0, [.ref q25, .int 0])), (q23, .inl (X.2.2.2.1 1, 200, .inl (fun _ => 0))), (q22, .inr (0, [.ref q23, .int 0])), (q21, .inl (X.2.2.2.1 2, 16, .inr (.inl (fun _ => 0)))), (q20, .inl (X.2.2.2.1 2, 128, .inr (.inl (fun _ => 0)))), (q19, .inl (X.2.2.2.1 2, 128, .inr (.inl (fun _ => 0)))), (q18, .inr (3, [.ref q19, .ref q20, .ref q21])), (q17, .inl (X.2.2.2.1 2, 128, .inr (.inl (fun _ => 0)))), (q16, .inl (X.2.2.2.1 2, 128, .inr (.inl (fun _ => 0)))), (q15, .inl (X.2.2.2.1 4, 128, .inr (.inr (.inr (.inr (fun i => some ((zn_ad q15 [a, q1, q22, q24, q26, q28, q30, q32, q34, q36, q23, q25, q27, q29, q31, q33, q35, q37, q2, q3, q4, q5, q6, q7, q8, q9, q10, q11, q12, q13, q14, q15, q16, q17, q18, q19, q20, q21]) (38 + i)))))))), (q14, .inr (1, [.ref q15, .ref q16, .ref q17, .ref q18, .int 0, .int 0, .int 0, .int 0, .int 0, .int 0, .int 0, .int 0, .int 0, .int 0])), (q13, .inl (X.2.2.2.1 2, 16, .inr (.inl (fun _ => 0)))), (q12, .inl (X.2.2.2.1 2, 16, .inr (.inl (fun _ => 0)))), (q11, .inl (X.2.2.2.1 2, 8, .inr (.inl (fun _ => 0)))), (q10, .inl (X.2.2.2.1 1, 1024, .inl (fun _ => 0))), (q9, .inr (0, [.ref q10, .int 0])), (q8, .inl (X.2.2.2.1 1, 1028, .inl (fun _ => 0))), (q7, .inr (0, [.ref q8, .int 0])), (q6, .inr (2, [.ref q7, .ref q9, .ref q11, .ref q12, .ref q13])), (q5, .inl (X.2.2.2.1 1, 64, .inl (fun _ => 0))), (q4, .inr (0, [.ref q5, .int 0])), (q3, .inl (X.2.2.2.1 1, 0, .inl (fun _ => 0))), (q2, .inr (0, [.ref q3, .int 0])), (q1, .inl (X.2.2.2.1 3, 8, .inr (.inr (.inr (.inr (fun i => some ((zn_ad q15 [a, q1, q22, q24, q26, q28, q30, q32, q34, q36, q23, q25, q27, q29, q31, q33, q35, q37, q2, q3, q4, q5, q6, q7, q8, q9, q10, q11, q12, q13, q14, q15, q16, q17, q18, q19, q20, q21]) (2 + i)))))))), (a, .inr (4, [.ref q1, .ref q2, .ref q4, .ref q6, .ref q14]))] : va_W)) (t₁ := zn_rows X q15 128 128 ++ ws) ((zn_p38 _ _ _ _ _ _ _ _ _ _ _ _ _ _ _ _ _ _ _ _ _ _ _ _ _ _ _ _ _ _ _ _ _ _ _ _ _ _).trans (List.Perm.of_eq rfl)) (List.Perm.append_right ws (List.Perm.of_eq zn_rows_eq))
