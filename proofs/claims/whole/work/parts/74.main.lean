set_option maxRecDepth 100000 in
theorem lq_main {p : Program} {e : Env} {R : Room} {s : State} {m : MethodId} {args : Array Value} {below : List Frame} {meth : Method} {c : Code} {Q : State → Prop} {Y : zk_X} {b L : Nat} {xs : Nat → Int32} (hC : zn_C Y (p, e, R, s, m, args, below, meth, c, 180, 41910, Q) RL cL_law (9, 300) (180, 41910)) (hX : lq_sc Y.2.1 (p, e, R, s, m, args, below, meth, c, 180, 41910, Q) b L xs) (hL : L < 2 ^ 31)
    (hE : ∀ ad0 ad1 i, lq_At Y ad0 ad1 (p, e, R, s, m, args, below, meth, c, 180, 41910, Q) b 663 i) : zn_A Y (p, e, R, s, m, args, below, meth, c, 180, 41910, Q) 0 [some (.ref b), none, none, none] [] [] 0 0 := by
  refine zn_new (ci := 4) (C := RX4) (T := TX4) (N := 5) (ty0 := tyX4) (fs := [.null, .null, .null, .null, .null]) hC rfl uw_X4 tyX4_ok nw_L_7 df_X4 (Nat.le_of_ble_eq_true rfl) (Nat.le_of_ble_eq_true rfl) ⟨dL_law_0, rfl⟩ ?_
  intro q4
  refine zn_dup hC ⟨dL_law_3, rfl⟩ rfl ?_
  refine zn_call hC ml_L_9 in_X4 (zn_X4 (a := q4) (ws := [])) ⟨(Nat.le_of_ble_eq_true rfl), (Nat.le_of_ble_eq_true rfl)⟩ rfl rfl (Nat.le_of_ble_eq_true rfl) (Nat.le_of_ble_eq_true rfl) (Nat.le_of_ble_eq_true rfl) ⟨dL_law_4, rfl⟩ ?_
  rintro w4 ⟨ad0, h0, hp0⟩
  subst h0
  refine zn_perm hp0 ?_
  refine zn_astoreNG (k := 1) hC ⟨dL_law_7, rfl⟩ (Nat.le_of_ble_eq_true rfl) (Or.inr rfl) ?_
  refine zn_new (ci := 5) (C := RX5) (T := TX5) (N := 23) (ty0 := tyX5) (fs := [.int 0, .null, .null, .int 0, .null, .int 0, .null, .null, .null, .null, .null, .int 0, .int 0, .int 0, .int 0, .int 0, .int 0, .int 0, .null, .null, .null, .null, .null]) hC rfl uw_X5 tyX5_ok nw_L_10 df_X5 (Nat.le_of_ble_eq_true rfl) (Nat.le_of_ble_eq_true rfl) ⟨dL_law_8, rfl⟩ ?_
  intro q5
  refine zn_dup hC ⟨dL_law_11, rfl⟩ rfl ?_
  refine zn_call hC ml_L_12 in_X5 (zn_X5 (a := q5) (ws := zn_cells 0 Y ad0 ++ [])) ⟨(Nat.le_of_ble_eq_true rfl), (Nat.le_of_ble_eq_true rfl)⟩ rfl rfl (Nat.le_of_ble_eq_true rfl) (Nat.le_of_ble_eq_true rfl) (Nat.le_of_ble_eq_true rfl) ⟨dL_law_12, rfl⟩ ?_
  rintro w5 ⟨ad1, h1, hp1⟩
  subst h1
  refine zn_astoreNG (k := 2) hC ⟨dL_law_15, rfl⟩ (Nat.le_of_ble_eq_true rfl) (Or.inr rfl) ?_
  refine zn_iconst hC ⟨dL_law_16, rfl⟩ (x := nI 0) (by decide +kernel) ?_
  refine zn_istoreNG (k := 3) hC ⟨dL_law_17, rfl⟩ (Nat.le_of_ble_eq_true rfl) (Or.inr rfl) ?_
  simp only [List.set_cons_zero, List.set_cons_succ]
  refine lq_in (ad0 := ad0) (ad1 := ad1) (I := fun _ _ => 0) (J := fun _ _ => 0) (Ir := fun _ _ => 0) (Jr := fun _ _ => 0) (k := 180) (n := 41910) ⟨rfl, rfl⟩ (Nat.le_of_ble_eq_true rfl) (Nat.le_of_ble_eq_true rfl) ?_ (fun hD => ?_)
  · refine hp1.trans ?_
    rw [List.append_nil]
    exact List.perm_append_comm
  · exact lq_loop ⟨fun Ir Jr => lq_C0 hC ⟨rfl, rfl⟩ (Nat.le_refl _) (Nat.le_refl _) hD Ir Jr, fun I J => lq_C1 hC ⟨rfl, rfl⟩ (Nat.le_refl _) (Nat.le_refl _) hD I J, hX, hL⟩ (fun i => hE ad0 ad1 i) L 0 (Nat.zero_le _) (Nat.le_refl _) _ _ _ _ sm_start
