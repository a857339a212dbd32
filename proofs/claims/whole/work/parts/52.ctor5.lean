/-- addresses by place -/
def zn_ad (q : Nat) (l : List Nat) (k : Nat) : Nat := if 38 ≤ k then q + 1 + (k - 38) else l.getD k 0
theorem zn_ad_far {q : Nat} {l : List Nat} (j : Nat) : zn_ad q l (38 + j) = q + 1 + j := by
  unfold zn_ad
  rw [if_pos (by omega), Nat.add_sub_cancel_left]
theorem zn_8 {f g : Nat → Option Nat} (j : Nat) (hj : j < 8) (h0 : f 0 = g 0) (h1 : f 1 = g 1) (h2 : f 2 = g 2) (h3 : f 3 = g 3) (h4 : f 4 = g 4) (h5 : f 5 = g 5) (h6 : f 6 = g 6) (h7 : f 7 = g 7) : f j = g j := match j, hj with
  | 0, _ => h0
  | 1, _ => h1
  | 2, _ => h2
  | 3, _ => h3
  | 4, _ => h4
  | 5, _ => h5
  | 6, _ => h6
  | 7, _ => h7
  | j + 8, h => absurd h (by omega)
/-- the cells of a kind, all numbers zero -/
def zn_X (X : zk_X) (ad : Nat → Nat) (wr : va_W) : zk_X := (X.1, X.2.1, X.2.2.1, X.2.2.2.1, ad, X.2.2.2.2.2.1, wr)
def zn_cells (v : Nat) (X : zk_X) (ad : Nat → Nat) : va_W := (List.range (zk_N v)).map (fun k => (ad k, zk_e (zn_X X ad []) (fun _ _ => 0) (fun _ _ => 0) k (zk_sh v k)))
theorem zn_range {α : Type} (F : Nat → α) : (List.range 166).map F = (List.range 38).map F ++ (List.range 128).map (fun i => F (38 + i)) := by
  rw [show (166 : Nat) = 38 + 128 from rfl, List.range_add, List.map_append, List.map_map]
  rfl
theorem zn_sh_far {i : Nat} : zk_sh 0 (38 + i) = .inl (2, 128) := by
  show zk_sh0 (38 + i) = _
  unfold zk_sh0
  rw [if_pos (by omega)]
set_option maxRecDepth 100000 in
theorem zn_p14 {α : Type} (x0 x1 x2 x3 x4 x5 x6 x7 x8 x9 x10 x11 x12 x13 : α) : [x13, x12, x11, x10, x9, x8, x7, x6, x5, x4, x3, x2, x1, x0].Perm [x0, x1, x2, x3, x4, x5, x6, x7, x8, x9, x10, x11, x12, x13] :=
  (by decide +kernel : List.Perm [13, 12, 11, 10, 9, 8, 7, 6, 5, 4, 3, 2, 1, 0] (List.range 14)).map (fun i => [x0, x1, x2, x3, x4, x5, x6, x7, x8, x9, x10, x11, x12, x13].getD i x0)
set_option maxRecDepth 100000 in
theorem zn_X5 {X : zk_X} {a : Nat} {ws : va_W} : zn_M X yX5_init cX5_init 1 (1, 20) (13, 21032) [.ref a] ((a, .inr (5, [.int 0, .null, .null, .int 0, .null, .int 0, .null, .null, .null, .null, .null, .int 0, .int 0, .int 0, .int 0, .int 0, .int 0, .int 0, .null, .null, .null, .null, .null])) :: ws) (fun w => ∃ ad : Nat → Nat, ad 0 = a ∧ w.Perm (zn_cells 1 X ad ++ ws)) := by
  refine zn_M.intro rfl rfl rfl rfl ?_
  intro E hC hR
  refine zn_aload_n (k := 0) hC rfl ⟨dX5_init_0, rfl⟩ ?_
  refine zn_obj hC ⟨(Nat.le_of_ble_eq_true rfl), (Nat.le_of_ble_eq_true rfl)⟩ ob_X5 ob_ws (Nat.le_of_ble_eq_true rfl) ⟨dX5_init_1, rfl⟩ ?_
  refine zn_aload_n (k := 0) hC rfl ⟨dX5_init_4, rfl⟩ ?_
  refine zn_bipush hC ⟨dX5_init_5, rfl⟩ (x := nI 8) (by decide +kernel) ?_
  refine zn_newa (atype := .int) (ty := .int) (t := 0) (a0 := (8, .inl fun _ => 0)) (N := 8) hC rfl ac_int rfl (fun _ => rfl) (by decide +kernel) (by decide +kernel) (Nat.le_of_ble_eq_true rfl) (Nat.le_of_ble_eq_true rfl) (Nat.le_of_ble_eq_true rfl) ⟨dX5_init_7, rfl⟩ ?_
  intro q1
  refine zn_put (ci := 5) (C := RX5) (T := TX5) (N := 23) (j := 1) (ty := tyX5 1) (ty0 := tyX5) 1 hC hR rfl uw_X5 ⟨tyX5_ok, nmX5⟩ (Nat.le_of_ble_eq_true rfl) fd_X5_7 rfl rfl rfl rfl (tyX5_ok 1 (Nat.le_of_ble_eq_true rfl)) rfl rfl (Nat.le_of_ble_eq_true rfl) ⟨dX5_init_9, rfl⟩ ?_
  simp only [List.set_cons_zero, List.set_cons_succ]
  refine zn_aload_n (k := 0) hC rfl ⟨dX5_init_12, rfl⟩ ?_
  refine zn_sipush hC ⟨dX5_init_13, rfl⟩ (x := nI 1600) (by decide +kernel) ?_
  refine zn_newa (atype := .int) (ty := .int) (t := 0) (a0 := (1600, .inl fun _ => 0)) (N := 1600) hC rfl ac_int rfl (fun _ => rfl) (by decide +kernel) (by decide +kernel) (Nat.le_of_ble_eq_true rfl) (Nat.le_of_ble_eq_true rfl) (Nat.le_of_ble_eq_true rfl) ⟨dX5_init_16, rfl⟩ ?_
  intro q2
  refine zn_put (ci := 5) (C := RX5) (T := TX5) (N := 23) (j := 2) (ty := tyX5 2) (ty0 := tyX5) 2 hC hR rfl uw_X5 ⟨tyX5_ok, nmX5⟩ (Nat.le_of_ble_eq_true rfl) fd_X5_13 rfl rfl rfl rfl (tyX5_ok 2 (Nat.le_of_ble_eq_true rfl)) rfl rfl (Nat.le_of_ble_eq_true rfl) ⟨dX5_init_18, rfl⟩ ?_
  simp only [List.set_cons_zero, List.set_cons_succ]
  refine zn_aload_n (k := 0) hC rfl ⟨dX5_init_21, rfl⟩ ?_
  refine zn_bipush hC ⟨dX5_init_22, rfl⟩ (x := nI 64) (by decide +kernel) ?_
  refine zn_newa (atype := .int) (ty := .int) (t := 0) (a0 := (64, .inl fun _ => 0)) (N := 64) hC rfl ac_int rfl (fun _ => rfl) (by decide +kernel) (by decide +kernel) (Nat.le_of_ble_eq_true rfl) (Nat.le_of_ble_eq_true rfl) (Nat.le_of_ble_eq_true rfl) ⟨dX5_init_24, rfl⟩ ?_
  intro q3
  refine zn_put (ci := 5) (C := RX5) (T := TX5) (N := 23) (j := 4) (ty := tyX5 4) (ty0 := tyX5) 3 hC hR rfl uw_X5 ⟨tyX5_ok, nmX5⟩ (Nat.le_of_ble_eq_true rfl) fd_X5_16 rfl rfl rfl rfl (tyX5_ok 4 (Nat.le_of_ble_eq_true rfl)) rfl rfl (Nat.le_of_ble_eq_true rfl) ⟨dX5_init_26, rfl⟩ ?_
  simp only [List.set_cons_zero, List.set_cons_succ]
  refine zn_aload_n (k := 0) hC rfl ⟨dX5_init_29, rfl⟩ ?_
  refine zn_sipush hC ⟨dX5_init_30, rfl⟩ (x := nI 1400) (by decide +kernel) ?_
  refine zn_newa (atype := .int) (ty := .int) (t := 0) (a0 := (1400, .inl fun _ => 0)) (N := 1400) hC rfl ac_int rfl (fun _ => rfl) (by decide +kernel) (by decide +kernel) (Nat.le_of_ble_eq_true rfl) (Nat.le_of_ble_eq_true rfl) (Nat.le_of_ble_eq_true rfl) ⟨dX5_init_33, rfl⟩ ?_
  intro q4
  refine zn_put (ci := 5) (C := RX5) (T := TX5) (N := 23) (j := 6) (ty := tyX5 6) (ty0 := tyX5) 4 hC hR rfl uw_X5 ⟨tyX5_ok, nmX5⟩ (Nat.le_of_ble_eq_true rfl) fd_X5_19 rfl rfl rfl rfl (tyX5_ok 6 (Nat.le_of_ble_eq_true rfl)) rfl rfl (Nat.le_of_ble_eq_true rfl) ⟨dX5_init_35, rfl⟩ ?_
  simp only [List.set_cons_zero, List.set_cons_succ]
  refine zn_aload_n (k := 0) hC rfl ⟨dX5_init_38, rfl⟩ ?_
  refine zn_bipush hC ⟨dX5_init_39, rfl⟩ (x := nI 8) (by decide +kernel) ?_
  refine zn_newa (atype := .long) (ty := .long) (t := 2) (a0 := (8, .inr (.inl fun _ => 0))) (N := 8) hC rfl ac_long rfl (fun _ => rfl) (by decide +kernel) (by decide +kernel) (Nat.le_of_ble_eq_true rfl) (Nat.le_of_ble_eq_true rfl) (Nat.le_of_ble_eq_true rfl) ⟨dX5_init_41, rfl⟩ ?_
  intro q5
  refine zn_put (ci := 5) (C := RX5) (T := TX5) (N := 23) (j := 7) (ty := tyX5 7) (ty0 := tyX5) 5 hC hR rfl uw_X5 ⟨tyX5_ok, nmX5⟩ (Nat.le_of_ble_eq_true rfl) fd_X5_22 rfl rfl rfl rfl (tyX5_ok 7 (Nat.le_of_ble_eq_true rfl)) rfl rfl (Nat.le_of_ble_eq_true rfl) ⟨dX5_init_43, rfl⟩ ?_
  simp only [List.set_cons_zero, List.set_cons_succ]
  refine zn_aload_n (k := 0) hC rfl ⟨dX5_init_46, rfl⟩ ?_
  refine zn_bipush hC ⟨dX5_init_47, rfl⟩ (x := nI 16) (by decide +kernel) ?_
  refine zn_newa (atype := .long) (ty := .long) (t := 2) (a0 := (16, .inr (.inl fun _ => 0))) (N := 16) hC rfl ac_long rfl (fun _ => rfl) (by decide +kernel) (by decide +kernel) (Nat.le_of_ble_eq_true rfl) (Nat.le_of_ble_eq_true rfl) (Nat.le_of_ble_eq_true rfl) ⟨dX5_init_49, rfl⟩ ?_
  intro q6
  refine zn_put (ci := 5) (C := RX5) (T := TX5) (N := 23) (j := 8) (ty := tyX5 8) (ty0 := tyX5) 6 hC hR rfl uw_X5 ⟨tyX5_ok, nmX5⟩ (Nat.le_of_ble_eq_true rfl) fd_X5_26 rfl rfl rfl rfl (tyX5_ok 8 (Nat.le_of_ble_eq_true rfl)) rfl rfl (Nat.le_of_ble_eq_true rfl) ⟨dX5_init_51, rfl⟩ ?_
  simp only [List.set_cons_zero, List.set_cons_succ]
  refine zn_aload_n (k := 0) hC rfl ⟨dX5_init_54, rfl⟩ ?_
  refine zn_bipush hC ⟨dX5_init_55, rfl⟩ (x := nI 16) (by decide +kernel) ?_
  refine zn_newa (atype := .long) (ty := .long) (t := 2) (a0 := (16, .inr (.inl fun _ => 0))) (N := 16) hC rfl ac_long rfl (fun _ => rfl) (by decide +kernel) (by decide +kernel) (Nat.le_of_ble_eq_true rfl) (Nat.le_of_ble_eq_true rfl) (Nat.le_of_ble_eq_true rfl) ⟨dX5_init_57, rfl⟩ ?_
  intro q7
  refine zn_put (ci := 5) (C := RX5) (T := TX5) (N := 23) (j := 9) (ty := tyX5 9) (ty0 := tyX5) 7 hC hR rfl uw_X5 ⟨tyX5_ok, nmX5⟩ (Nat.le_of_ble_eq_true rfl) fd_X5_29 rfl rfl rfl rfl (tyX5_ok 9 (Nat.le_of_ble_eq_true rfl)) rfl rfl (Nat.le_of_ble_eq_true rfl) ⟨dX5_init_59, rfl⟩ ?_
  simp only [List.set_cons_zero, List.set_cons_succ]
  refine zn_aload_n (k := 0) hC rfl ⟨dX5_init_62, rfl⟩ ?_
  refine zn_sipush hC ⟨dX5_init_63, rfl⟩ (x := nI 1024) (by decide +kernel) ?_
  refine zn_newa (atype := .int) (ty := .int) (t := 0) (a0 := (1024, .inl fun _ => 0)) (N := 1024) hC rfl ac_int rfl (fun _ => rfl) (by decide +kernel) (by decide +kernel) (Nat.le_of_ble_eq_true rfl) (Nat.le_of_ble_eq_true rfl) (Nat.le_of_ble_eq_true rfl) ⟨dX5_init_66, rfl⟩ ?_
  intro q8
  refine zn_put (ci := 5) (C := RX5) (T := TX5) (N := 23) (j := 10) (ty := tyX5 10) (ty0 := tyX5) 8 hC hR rfl uw_X5 ⟨tyX5_ok, nmX5⟩ (Nat.le_of_ble_eq_true rfl) fd_X5_32 rfl rfl rfl rfl (tyX5_ok 10 (Nat.le_of_ble_eq_true rfl)) rfl rfl (Nat.le_of_ble_eq_true rfl) ⟨dX5_init_68, rfl⟩ ?_
  simp only [List.set_cons_zero, List.set_cons_succ]
  refine zn_aload_n (k := 0) hC rfl ⟨dX5_init_71, rfl⟩ ?_
  refine zn_sipush hC ⟨dX5_init_72, rfl⟩ (x := nI 16384) (by decide +kernel) ?_
  refine zn_newa (atype := .long) (ty := .long) (t := 2) (a0 := (16384, .inr (.inl fun _ => 0))) (N := 16384) hC rfl ac_long rfl (fun _ => rfl) (by decide +kernel) (by decide +kernel) (Nat.le_of_ble_eq_true rfl) (Nat.le_of_ble_eq_true rfl) (Nat.le_of_ble_eq_true rfl) ⟨dX5_init_75, rfl⟩ ?_
  intro q9
  refine zn_put (ci := 5) (C := RX5) (T := TX5) (N := 23) (j := 18) (ty := tyX5 18) (ty0 := tyX5) 9 hC hR rfl uw_X5 ⟨tyX5_ok, nmX5⟩ (Nat.le_of_ble_eq_true rfl) fd_X5_35 rfl rfl rfl rfl (tyX5_ok 18 (Nat.le_of_ble_eq_true rfl)) rfl rfl (Nat.le_of_ble_eq_true rfl) ⟨dX5_init_77, rfl⟩ ?_
  simp only [List.set_cons_zero, List.set_cons_succ]
  refine zn_aload_n (k := 0) hC rfl ⟨dX5_init_80, rfl⟩ ?_
  refine zn_sipush hC ⟨dX5_init_81, rfl⟩ (x := nI 128) (by decide +kernel) ?_
  refine zn_newa (atype := .long) (ty := .long) (t := 2) (a0 := (128, .inr (.inl fun _ => 0))) (N := 128) hC rfl ac_long rfl (fun _ => rfl) (by decide +kernel) (by decide +kernel) (Nat.le_of_ble_eq_true rfl) (Nat.le_of_ble_eq_true rfl) (Nat.le_of_ble_eq_true rfl) ⟨dX5_init_84, rfl⟩ ?_
  intro q10
  refine zn_put (ci := 5) (C := RX5) (T := TX5) (N := 23) (j := 19) (ty := tyX5 19) (ty0 := tyX5) 10 hC hR rfl uw_X5 ⟨tyX5_ok, nmX5⟩ (Nat.le_of_ble_eq_true rfl) fd_X5_38 rfl rfl rfl rfl (tyX5_ok 19 (Nat.le_of_ble_eq_true rfl)) rfl rfl (Nat.le_of_ble_eq_true rfl) ⟨dX5_init_86, rfl⟩ ?_
  simp only [List.set_cons_zero, List.set_cons_succ]
  refine zn_aload_n (k := 0) hC rfl ⟨dX5_init_89, rfl⟩ ?_
  refine zn_sipush hC ⟨dX5_init_90, rfl⟩ (x := nI 128) (by decide +kernel) ?_
  refine zn_newa (atype := .long) (ty := .long) (t := 2) (a0 := (128, .inr (.inl fun _ => 0))) (N := 128) hC rfl ac_long rfl (fun _ => rfl) (by decide +kernel) (by decide +kernel) (Nat.le_of_ble_eq_true rfl) (Nat.le_of_ble_eq_true rfl) (Nat.le_of_ble_eq_true rfl) ⟨dX5_init_93, rfl⟩ ?_
  intro q11
  refine zn_put (ci := 5) (C := RX5) (T := TX5) (N := 23) (j := 20) (ty := tyX5 20) (ty0 := tyX5) 11 hC hR rfl uw_X5 ⟨tyX5_ok, nmX5⟩ (Nat.le_of_ble_eq_true rfl) fd_X5_41 rfl rfl rfl rfl (tyX5_ok 20 (Nat.le_of_ble_eq_true rfl)) rfl rfl (Nat.le_of_ble_eq_true rfl) ⟨dX5_init_95, rfl⟩ ?_
  simp only [List.set_cons_zero, List.set_cons_succ]
  refine zn_aload_n (k := 0) hC rfl ⟨dX5_init_98, rfl⟩ ?_
  refine zn_sipush hC ⟨dX5_init_99, rfl⟩ (x := nI 128) (by decide +kernel) ?_
  refine zn_newa (atype := .long) (ty := .long) (t := 2) (a0 := (128, .inr (.inl fun _ => 0))) (N := 128) hC rfl ac_long rfl (fun _ => rfl) (by decide +kernel) (by decide +kernel) (Nat.le_of_ble_eq_true rfl) (Nat.le_of_ble_eq_true rfl) (Nat.le_of_ble_eq_true rfl) ⟨dX5_init_102, rfl⟩ ?_
  intro q12
  refine zn_put (ci := 5) (C := RX5) (T := TX5) (N := 23) (j := 21) (ty := tyX5 21) (ty0 := tyX5) 12 hC hR rfl uw_X5 ⟨tyX5_ok, nmX5⟩ (Nat.le_of_ble_eq_true rfl) fd_X5_44 rfl rfl rfl rfl (tyX5_ok 21 (Nat.le_of_ble_eq_true rfl)) rfl rfl (Nat.le_of_ble_eq_true rfl) ⟨dX5_init_104, rfl⟩ ?_
  simp only [List.set_cons_zero, List.set_cons_succ]
  refine zn_aload_n (k := 0) hC rfl ⟨dX5_init_107, rfl⟩ ?_
  refine zn_sipush hC ⟨dX5_init_108, rfl⟩ (x := nI 128) (by decide +kernel) ?_
  refine zn_newa (atype := .long) (ty := .long) (t := 2) (a0 := (128, .inr (.inl fun _ => 0))) (N := 128) hC rfl ac_long rfl (fun _ => rfl) (by decide +kernel) (by decide +kernel) (Nat.le_of_ble_eq_true rfl) (Nat.le_of_ble_eq_true rfl) (Nat.le_of_ble_eq_true rfl) ⟨dX5_init_111, rfl⟩ ?_
  intro q13
  refine zn_put (ci := 5) (C := RX5) (T := TX5) (N := 23) (j := 22) (ty := tyX5 22) (ty0 := tyX5) 13 hC hR rfl uw_X5 ⟨tyX5_ok, nmX5⟩ (Nat.le_of_ble_eq_true rfl) fd_X5_47 rfl rfl rfl rfl (tyX5_ok 22 (Nat.le_of_ble_eq_true rfl)) rfl rfl (Nat.le_of_ble_eq_true rfl) ⟨dX5_init_113, rfl⟩ ?_
  simp only [List.set_cons_zero, List.set_cons_succ]
  refine zn_vret hC hR ⟨(fun k => [a, q1, q2, q3, q4, q5, q6, q7, q8, q9, q10, q11, q12, q13].getD k 0), rfl, ?_⟩ (Nat.le_of_ble_eq_true rfl) (Nat.le_of_ble_eq_true rfl) ⟨dX5_init_116, rfl⟩
  refine List.Perm.append_right (l₁ := ([(q13, .inl (X.2.2.2.1 2, 128, .inr (.inl (fun _ => 0)))), (q12, .inl (X.2.2.2.1 2, 128, .inr (.inl (fun _ => 0)))), (q11, .inl (X.2.2.2.1 2, 128, .inr (.inl (fun _ => 0)))), (q10, .inl (X.2.2.2.1 2, 128, .inr (.inl (fun _ => 0)))), (q9, .inl (X.2.2.2.1 2, 16384, .inr (.inl (fun _ => 0)))), (q8, .inl (X.2.2.2.1 0, 1024, .inl (fun _ => 0))), (q7, .inl (X.2.2.2.1 2, 16, .inr (.inl (fun _ => 0)))), (q6, .inl (X.2.2.2.1 2, 16, .inr (.inl (fun _ => 0)))), (q5, .inl (X.2.2.2.1 2, 8, .inr (.inl (fun _ => 0)))), (q4, .inl (X.2.2.2.1 0, 1400, .inl (fun _ => 0))), (q3, .inl (X.2.2.2.1 0, 64, .inl (fun _ => 0))), (q2, .inl (X.2.2.2.1 0, 1600, .inl (fun _ => 0))), (q1, .inl (X.2.2.2.1 0, 8, .inl (fun _ => 0))), (a, .inr (5, [.int 0, .ref q1, .ref q2, .int 0, .ref q3, .int 0, .ref q4, .ref q5, .ref q6, .ref q7, .ref q8, .int 0, .int 0, .int 0, .int 0, .int 0, .int 0, .int 0, .ref q9, .ref q10, .ref q11, .ref q12, .ref q13]))] : va_W)) ws ((zn_p14 _ _ _ _ _ _ _ _ _ _ _ _ _ _).trans (List.Perm.of_eq rfl))
