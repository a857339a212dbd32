set_option maxRecDepth 100000 in
theorem zn_X4_it {X : zk_X} {E : zk_E} {B : va_W → Prop} {a qr kc nc i : Nat} {x1 x2 x3 x4 : Value} {f : Nat → Option Nat} {w : va_W} (i1 i2 : Nat) (hC : zn_C X E yX4_init.cls cX4_init (3, 62) (165, 20850)) (hlt : ¬ nI 8 ≤ nI i) (hinc : nI i + Int32.ofInt 1 = nI (i + 1)) (hin : vp_in (nI i) 8) (hcl : (nI i).toNatClampNeg = i)
    (h1 : w[i1]? = some (a, .inr (4, [.ref qr, x1, x2, x3, x4]))) (h2 : w[i2]? = some (qr, .inl (X.2.2.2.1 3, 8, .inr (.inr (.inr (.inr f)))))) (hk : kc + 1 + 1 ≤ 165) (hn : nc + 2 + 200 ≤ 20850)
    (kk : ∀ q q' : Nat, zn_A X E 62 [some (.ref a), some (.int (nI (i + 1)))] [] ((q', .inl (X.2.2.2.1 1, 200, .inl (fun _ => 0))) :: (q, .inr (0, [.ref q', .int 0])) :: w.set i2 (qr, .inl (X.2.2.2.1 3, 8, .inr (.inr (.inr (.inr (va_up f i (some q)))))))) (kc + 1 + 1) (nc + 2 + 200)) : zn_A X E 62 [some (.ref a), some (.int (nI i))] [] w kc nc := by
  refine zn_iload_n (k := 1) hC rfl ⟨dX4_init_62, rfl⟩ ?_
  refine zn_bipush hC ⟨dX4_init_63, rfl⟩ (x := nI 8) (by decide +kernel) ?_
  refine zn_icmp_ge hC ⟨dX4_init_65, rfl⟩ 90 rfl (fun h => absurd h hlt) (fun _ => ?_)
  refine zn_aload_n (k := 0) hC rfl ⟨dX4_init_68, rfl⟩ ?_
  refine zn_get (ci := 4) (C := RX4) (T := TX4) (N := 5) (j := 0) i1 hC rfl uw_X4 (Nat.le_of_ble_eq_true rfl) fd_X4_11 rfl h1 rfl ⟨dX4_init_69, rfl⟩ ?_
  refine zn_iload_n (k := 1) hC rfl ⟨dX4_init_72, rfl⟩ ?_
  refine zn_new (ci := 0) (C := RX0) (T := TX0) (N := 2) (ty0 := tyX0) (fs := [.null, .int 0]) hC rfl uw_X0 tyX0_ok nw_X4_9 df_X0 (by show kc + 1 ≤ 165; omega) (by show nc + 2 ≤ 20850; omega) ⟨dX4_init_73, rfl⟩ ?_
  intro q
  refine zn_dup hC ⟨dX4_init_76, rfl⟩ rfl ?_
  refine zn_sipush hC ⟨dX4_init_77, rfl⟩ (x := nI 200) (by decide +kernel) ?_
  refine zn_call hC ml_X4_15 in_X0 (zn_X0 (N := 200) (z := nI 200) (by decide +kernel) (by decide +kernel) (by decide +kernel)) ⟨(Nat.le_of_ble_eq_true rfl), (Nat.le_of_ble_eq_true rfl)⟩ rfl rfl (Nat.le_of_ble_eq_true rfl) (by show kc + 1 + 1 ≤ 165; omega) (by show nc + 2 + 200 ≤ 20850; omega) ⟨dX4_init_80, rfl⟩ ?_
  rintro _ ⟨q', rfl⟩
  refine zn_ast (t := 3) (r := (RX0, TX0, 2)) (ci := 0) (i2 + 2) 1 hC h2 rfl rfl rfl hin ⟨dX4_init_83, rfl⟩ ?_
  rw [hcl]
  refine zn_iincG hC ⟨dX4_init_84, rfl⟩ rfl ?_
  rw [hinc]
  refine zn_goto hC ⟨dX4_init_87, rfl⟩ 62 rfl ?_
  exact kk q q'
set_option maxRecDepth 100000 in
theorem zn_p38 {α : Type} (x0 x1 x2 x3 x4 x5 x6 x7 x8 x9 x10 x11 x12 x13 x14 x15 x16 x17 x18 x19 x20 x21 x22 x23 x24 x25 x26 x27 x28 x29 x30 x31 x32 x33 x34 x35 x36 x37 : α) : [x17, x9, x16, x8, x15, x7, x14, x6, x13, x5, x12, x4, x11, x3, x10, x2, x37, x36, x35, x34, x33, x32, x31, x30, x29, x28, x27, x26, x25, x24, x23, x22, x21, x20, x19, x18, x1, x0].Perm [x0, x1, x2, x3, x4, x5, x6, x7, x8, x9, x10, x11, x12, x13, x14, x15, x16, x17, x18, x19, x20, x21, x22, x23, x24, x25, x26, x27, x28, x29, x30, x31, x32, x33, x34, x35, x36, x37] :=
  (by decide +kernel : List.Perm [17, 9, 16, 8, 15, 7, 14, 6, 13, 5, 12, 4, 11, 3, 10, 2, 37, 36, 35, 34, 33, 32, 31, 30, 29, 28, 27, 26, 25, 24, 23, 22, 21, 20, 19, 18, 1, 0] (List.range 38)).map (fun i => [x0, x1, x2, x3, x4, x5, x6, x7, x8, x9, x10, x11, x12, x13, x14, x15, x16, x17, x18, x19, x20, x21, x22, x23, x24, x25, x26, x27, x28, x29, x30, x31, x32, x33, x34, x35, x36, x37].getD i x0)
