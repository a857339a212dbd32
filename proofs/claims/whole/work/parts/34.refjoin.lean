/-! THE REFERENCE: JOIN -/
def md_s (a b : Int64) : Int64 := a + (b + 2 * (a &&& 4294967295) * (b &&& 4294967295))
abbrev md_q : Type := Int64 × Int64 × Int64 × Int64
/-- HARD MIX of four words -/
def md_qa (x : md_q) : md_q := (md_s x.1 x.2.1, x.2.1, x.2.2.1, x.2.2.2)
def md_qd (x : md_q) (k : Nat) : md_q := (x.1, x.2.1, x.2.2.1, hz_R (x.2.2.2 ^^^ x.1) k)
def md_qc (x : md_q) : md_q := (x.1, x.2.1, md_s x.2.2.1 x.2.2.2, x.2.2.2)
def md_qb (x : md_q) (k : Nat) : md_q := (x.1, hz_R (x.2.1 ^^^ x.2.2.1) k, x.2.2.1, x.2.2.2)
def md_q8 (x : md_q) : md_q := md_qb (md_qc (md_qd (md_qa (md_qb (md_qc (md_qd (md_qa x) 32)) 24)) 16)) 63
def md_hard (z : Nat → Int64) (a b c d : Nat) : Nat → Int64 := vp_updL (vp_updL (vp_updL (vp_updL z a (md_q8 (z a, z b, z c, z d)).1) b (md_q8 (z a, z b, z c, z d)).2.1) c (md_q8 (z a, z b, z c, z d)).2.2.1) d (md_q8 (z a, z b, z c, z d)).2.2.2
def md_sp (fr b k : Nat) : Nat := if b = 0 then fr + k else fr + 16 * (k / 2) + k % 2
def md_qt (z : Nat → Int64) (fr b x y u w : Nat) : Nat → Int64 := md_hard z (md_sp fr b x) (md_sp fr b y) (md_sp fr b u) (md_sp fr b w)
def md_st (z : Nat → Int64) (fr b : Nat) : Nat → Int64 := md_qt (md_qt (md_qt (md_qt (md_qt (md_qt (md_qt (md_qt z fr b 0 4 8 12) fr b 1 5 9 13) fr b 2 6 10 14) fr b 3 7 11 15) fr b 0 5 10 15) fr b 1 6 11 12) fr b 2 7 8 13) fr b 3 4 9 14
def md_rows (z : Nat → Int64) : Nat → Nat → Int64
  | 0 => z
  | i + 1 => md_st (md_rows z i) (16 * i) 0
def md_cols (z : Nat → Int64) : Nat → Nat → Int64
  | 0 => z
  | i + 1 => md_st (md_cols z i) (2 * i) 1
def md_x (J : zk_J) : Nat → Int64 := fun k => J 10 k ^^^ J 11 k
def md_z (J : zk_J) : Nat → Int64 := md_cols (md_rows (fz_fill (J 12) (md_x J) 128) 8) 8
def md_j (J : zk_J) : Nat → Int64 := fz_fill (md_z J) (fun k => md_z J k ^^^ (J 10 k ^^^ J 11 k)) 128

set_option maxHeartbeats 1000000 in
set_option maxRecDepth 100000 in
theorem c_X5_half (X : zk_X) (I : zk_I) (J : zk_J) (x : Int64) : zk_M 1 X yX5_half cX5_half 2 ((some .long)) (0, 0) [.long x] I J (some (.long (x &&& 4294967295))) I J := by
  refine zk_M.intro (by decide) (lv := [some (.long x), none]) rfl rfl (fun E hC hR => ?_)
  refine zk_lload_n (pc' := 1) hC rfl ⟨dX5_half_0, rfl⟩ ?_
  refine zk_ldc2 (pc' := 4) (x := 4294967295) hC ⟨dX5_half_1, rfl⟩ kl_X5_188 ?_
  refine zk_land (pc' := 5) hC ⟨dX5_half_4, rfl⟩ ?_
  exact zk_lret (pc' := 6) hC hR rfl rfl rfl ⟨dX5_half_5, rfl⟩

set_option maxHeartbeats 1000000 in
set_option maxRecDepth 100000 in
theorem c_X5_hard (X : zk_X) (I : zk_I) (J : zk_J) {a b c d : Nat} (ha : a < 128) (hb : b < 128) (hc : c < 128) (hd : d < 128) : zk_M 1 X yX5_hard cX5_hard 13 none (1, 22) [.ref (zk_ad X 0), .int (nI a), .int (nI b), .int (nI c), .int (nI d)] I J none I (zk_u J 12 (md_hard (J 12) a b c d)) := by
  refine zk_M.intro (by decide) (lv := [some (.ref (zk_ad X 0)), some (.int (nI a)), some (.int (nI b)), some (.int (nI c)), some (.int (nI d)), none, none, none, none, none, none, none, none]) rfl rfl (fun E hC hR => ?_)
  refine zk_eqJ (J' := zk_u J 12 (J 12)) (zk_u_self J 12).symm ?_
  unfold md_hard at hR
  generalize J 12 = z at hR ⊢
  refine zk_aload_n (pc' := 1) hC rfl ⟨dX5_hard_0, rfl⟩ ?_
  refine zk_getr (pc' := 4) hC fl_X5_44 (by first | decide | assumption | omega) (by first | rfl | assumption) rfl ⟨dX5_hard_1, rfl⟩ ?_
  refine zk_iload_n (pc' := 5) hC rfl ⟨dX5_hard_4, rfl⟩ ?_
  first | refine zk_laldU (pc' := 6) hC (by first | decide | assumption | omega) (by first | rfl | assumption) (by omega) (by first | decide | omega) ⟨dX5_hard_5, rfl⟩ ?_ | refine zk_laldN (pc' := 6) hC (by first | decide | assumption | omega) (by first | rfl | assumption) (by omega) (by first | decide | omega) ⟨dX5_hard_5, rfl⟩ ?_ | refine zk_t1N (pc' := 6) hC (by omega) ⟨dX5_hard_5, rfl⟩ ?_
  refine zk_ls5 (pc' := 8) hC ⟨dX5_hard_6, rfl⟩ rfl ?_
  refine zk_aload_n (pc' := 9) hC rfl ⟨dX5_hard_8, rfl⟩ ?_
  refine zk_getr (pc' := 12) hC fl_X5_44 (by first | decide | assumption | omega) (by first | rfl | assumption) rfl ⟨dX5_hard_9, rfl⟩ ?_
  refine zk_iload_n (pc' := 13) hC rfl ⟨dX5_hard_12, rfl⟩ ?_
  first | refine zk_laldU (pc' := 14) hC (by first | decide | assumption | omega) (by first | rfl | assumption) (by omega) (by first | decide | omega) ⟨dX5_hard_13, rfl⟩ ?_ | refine zk_laldN (pc' := 14) hC (by first | decide | assumption | omega) (by first | rfl | assumption) (by omega) (by first | decide | omega) ⟨dX5_hard_13, rfl⟩ ?_ | refine zk_t1N (pc' := 14) hC (by omega) ⟨dX5_hard_13, rfl⟩ ?_
  refine zk_ls7 (pc' := 16) hC ⟨dX5_hard_14, rfl⟩ rfl ?_
  refine zk_aload_n (pc' := 17) hC rfl ⟨dX5_hard_16, rfl⟩ ?_
  refine zk_getr (pc' := 20) hC fl_X5_44 (by first | decide | assumption | omega) (by first | rfl | assumption) rfl ⟨dX5_hard_17, rfl⟩ ?_
  refine zk_iload_n (pc' := 21) hC rfl ⟨dX5_hard_20, rfl⟩ ?_
  first | refine zk_laldU (pc' := 22) hC (by first | decide | assumption | omega) (by first | rfl | assumption) (by omega) (by first | decide | omega) ⟨dX5_hard_21, rfl⟩ ?_ | refine zk_laldN (pc' := 22) hC (by first | decide | assumption | omega) (by first | rfl | assumption) (by omega) (by first | decide | omega) ⟨dX5_hard_21, rfl⟩ ?_ | refine zk_t1N (pc' := 22) hC (by omega) ⟨dX5_hard_21, rfl⟩ ?_
  refine zk_ls9 (pc' := 24) hC ⟨dX5_hard_22, rfl⟩ rfl ?_
  refine zk_aload_n (pc' := 25) hC rfl ⟨dX5_hard_24, rfl⟩ ?_
  refine zk_getr (pc' := 28) hC fl_X5_44 (by first | decide | assumption | omega) (by first | rfl | assumption) rfl ⟨dX5_hard_25, rfl⟩ ?_
  refine zk_iload (pc' := 30) hC rfl ⟨dX5_hard_28, rfl⟩ ?_
  first | refine zk_laldU (pc' := 31) hC (by first | decide | assumption | omega) (by first | rfl | assumption) (by omega) (by first | decide | omega) ⟨dX5_hard_30, rfl⟩ ?_ | refine zk_laldN (pc' := 31) hC (by first | decide | assumption | omega) (by first | rfl | assumption) (by omega) (by first | decide | omega) ⟨dX5_hard_30, rfl⟩ ?_ | refine zk_t1N (pc' := 31) hC (by omega) ⟨dX5_hard_30, rfl⟩ ?_
  refine zk_ls11 (pc' := 33) hC ⟨dX5_hard_31, rfl⟩ rfl ?_
  generalize hx0 : ((z a, z b, z c, z d) : md_q) = x0 at hR
  have e0 : zk_A 1 X E 33 [some (.ref (zk_ad X 0)), some (.int (nI a)), some (.int (nI b)), some (.int (nI c)), some (.int (nI d)), some (.long x0.1), none, some (.long x0.2.1), none, some (.long x0.2.2.1), none, some (.long x0.2.2.2), none] [] I (zk_u J 12 z) → zk_A 1 X E 33 [some (.ref (zk_ad X 0)), some (.int (nI a)), some (.int (nI b)), some (.int (nI c)), some (.int (nI d)), some (.long ((z a, z b, z c, z d) : md_q).1), none, some (.long ((z a, z b, z c, z d) : md_q).2.1), none, some (.long ((z a, z b, z c, z d) : md_q).2.2.1), none, some (.long ((z a, z b, z c, z d) : md_q).2.2.2), none] [] I (zk_u J 12 z) := by rw [hx0]; exact id
  refine e0 ?_
  unfold md_q8 at hR
  refine zk_lload (pc' := 35) hC rfl ⟨dX5_hard_33, rfl⟩ ?_
  refine zk_lload (pc' := 37) hC rfl ⟨dX5_hard_35, rfl⟩ ?_
  refine zk_ldc2 (pc' := 40) (x := 2) hC ⟨dX5_hard_37, rfl⟩ kl_X5_190 ?_
  refine zk_lload (pc' := 42) hC rfl ⟨dX5_hard_40, rfl⟩ ?_
  refine zk_callS1 (pc' := 45) hC ml_X5_192 ms_X5_half (c_X5_half X I _ _) (by decide) rfl rfl (Nat.le_of_ble_eq_true rfl) ⟨dX5_hard_42, rfl⟩ ?_
  refine zk_lmul (pc' := 46) hC ⟨dX5_hard_45, rfl⟩ ?_
  refine zk_lload (pc' := 48) hC rfl ⟨dX5_hard_46, rfl⟩ ?_
  refine zk_callS1 (pc' := 51) hC ml_X5_192 ms_X5_half (c_X5_half X I _ _) (by decide) rfl rfl (Nat.le_of_ble_eq_true rfl) ⟨dX5_hard_48, rfl⟩ ?_
  refine zk_lmul (pc' := 52) hC ⟨dX5_hard_51, rfl⟩ ?_
  refine zk_ladd (pc' := 53) hC ⟨dX5_hard_52, rfl⟩ ?_
  refine zk_ladd (pc' := 54) hC ⟨dX5_hard_53, rfl⟩ ?_
  refine zk_ls5 (pc' := 56) hC ⟨dX5_hard_54, rfl⟩ rfl ?_
  change zk_A 1 X E 56 [some (.ref (zk_ad X 0)), some (.int (nI a)), some (.int (nI b)), some (.int (nI c)), some (.int (nI d)), some (.long (md_qa x0).1), none, some (.long (md_qa x0).2.1), none, some (.long (md_qa x0).2.2.1), none, some (.long (md_qa x0).2.2.2), none] [] I (zk_u J 12 z)
  generalize (md_qa x0) = x1 at hR ⊢
  refine zk_lload (pc' := 58) hC rfl ⟨dX5_hard_56, rfl⟩ ?_
  refine zk_lload (pc' := 60) hC rfl ⟨dX5_hard_58, rfl⟩ ?_
  refine zk_lxor (pc' := 61) hC ⟨dX5_hard_60, rfl⟩ ?_
  refine zk_bipush (pc' := 63) (x := nI 32) hC ⟨dX5_hard_61, rfl⟩ zc_bipush_32 ?_
  refine zk_callS1 (pc' := 66) hC ml_X5_100 ms_X5_turned (c_X5_turned X I _ _ (k := 32) (by decide)) (by decide) rfl rfl (Nat.le_of_ble_eq_true rfl) ⟨dX5_hard_63, rfl⟩ ?_
  refine zk_ls11 (pc' := 68) hC ⟨dX5_hard_66, rfl⟩ rfl ?_
  change zk_A 1 X E 68 [some (.ref (zk_ad X 0)), some (.int (nI a)), some (.int (nI b)), some (.int (nI c)), some (.int (nI d)), some (.long (md_qd x1 32).1), none, some (.long (md_qd x1 32).2.1), none, some (.long (md_qd x1 32).2.2.1), none, some (.long (md_qd x1 32).2.2.2), none] [] I (zk_u J 12 z)
  generalize (md_qd x1 32) = x2 at hR ⊢
  refine zk_lload (pc' := 70) hC rfl ⟨dX5_hard_68, rfl⟩ ?_
  refine zk_lload (pc' := 72) hC rfl ⟨dX5_hard_70, rfl⟩ ?_
  refine zk_ldc2 (pc' := 75) (x := 2) hC ⟨dX5_hard_72, rfl⟩ kl_X5_190 ?_
  refine zk_lload (pc' := 77) hC rfl ⟨dX5_hard_75, rfl⟩ ?_
  refine zk_callS1 (pc' := 80) hC ml_X5_192 ms_X5_half (c_X5_half X I _ _) (by decide) rfl rfl (Nat.le_of_ble_eq_true rfl) ⟨dX5_hard_77, rfl⟩ ?_
  refine zk_lmul (pc' := 81) hC ⟨dX5_hard_80, rfl⟩ ?_
  refine zk_lload (pc' := 83) hC rfl ⟨dX5_hard_81, rfl⟩ ?_
  refine zk_callS1 (pc' := 86) hC ml_X5_192 ms_X5_half (c_X5_half X I _ _) (by decide) rfl rfl (Nat.le_of_ble_eq_true rfl) ⟨dX5_hard_83, rfl⟩ ?_
  refine zk_lmul (pc' := 87) hC ⟨dX5_hard_86, rfl⟩ ?_
  refine zk_ladd (pc' := 88) hC ⟨dX5_hard_87, rfl⟩ ?_
  refine zk_ladd (pc' := 89) hC ⟨dX5_hard_88, rfl⟩ ?_
  refine zk_ls9 (pc' := 91) hC ⟨dX5_hard_89, rfl⟩ rfl ?_
  change zk_A 1 X E 91 [some (.ref (zk_ad X 0)), some (.int (nI a)), some (.int (nI b)), some (.int (nI c)), some (.int (nI d)), some (.long (md_qc x2).1), none, some (.long (md_qc x2).2.1), none, some (.long (md_qc x2).2.2.1), none, some (.long (md_qc x2).2.2.2), none] [] I (zk_u J 12 z)
  generalize (md_qc x2) = x3 at hR ⊢
  refine zk_lload (pc' := 93) hC rfl ⟨dX5_hard_91, rfl⟩ ?_
  refine zk_lload (pc' := 95) hC rfl ⟨dX5_hard_93, rfl⟩ ?_
  refine zk_lxor (pc' := 96) hC ⟨dX5_hard_95, rfl⟩ ?_
  refine zk_bipush (pc' := 98) (x := nI 24) hC ⟨dX5_hard_96, rfl⟩ zc_bipush_24 ?_
  refine zk_callS1 (pc' := 101) hC ml_X5_100 ms_X5_turned (c_X5_turned X I _ _ (k := 24) (by decide)) (by decide) rfl rfl (Nat.le_of_ble_eq_true rfl) ⟨dX5_hard_98, rfl⟩ ?_
  refine zk_ls7 (pc' := 103) hC ⟨dX5_hard_101, rfl⟩ rfl ?_
  change zk_A 1 X E 103 [some (.ref (zk_ad X 0)), some (.int (nI a)), some (.int (nI b)), some (.int (nI c)), some (.int (nI d)), some (.long (md_qb x3 24).1), none, some (.long (md_qb x3 24).2.1), none, some (.long (md_qb x3 24).2.2.1), none, some (.long (md_qb x3 24).2.2.2), none] [] I (zk_u J 12 z)
  generalize (md_qb x3 24) = x4 at hR ⊢
  refine zk_lload (pc' := 105) hC rfl ⟨dX5_hard_103, rfl⟩ ?_
  refine zk_lload (pc' := 107) hC rfl ⟨dX5_hard_105, rfl⟩ ?_
  refine zk_ldc2 (pc' := 110) (x := 2) hC ⟨dX5_hard_107, rfl⟩ kl_X5_190 ?_
  refine zk_lload (pc' := 112) hC rfl ⟨dX5_hard_110, rfl⟩ ?_
  refine zk_callS1 (pc' := 115) hC ml_X5_192 ms_X5_half (c_X5_half X I _ _) (by decide) rfl rfl (Nat.le_of_ble_eq_true rfl) ⟨dX5_hard_112, rfl⟩ ?_
  refine zk_lmul (pc' := 116) hC ⟨dX5_hard_115, rfl⟩ ?_
  refine zk_lload (pc' := 118) hC rfl ⟨dX5_hard_116, rfl⟩ ?_
  refine zk_callS1 (pc' := 121) hC ml_X5_192 ms_X5_half (c_X5_half X I _ _) (by decide) rfl rfl (Nat.le_of_ble_eq_true rfl) ⟨dX5_hard_118, rfl⟩ ?_
  refine zk_lmul (pc' := 122) hC ⟨dX5_hard_121, rfl⟩ ?_
  refine zk_ladd (pc' := 123) hC ⟨dX5_hard_122, rfl⟩ ?_
  refine zk_ladd (pc' := 124) hC ⟨dX5_hard_123, rfl⟩ ?_
  refine zk_ls5 (pc' := 126) hC ⟨dX5_hard_124, rfl⟩ rfl ?_
  change zk_A 1 X E 126 [some (.ref (zk_ad X 0)), some (.int (nI a)), some (.int (nI b)), some (.int (nI c)), some (.int (nI d)), some (.long (md_qa x4).1), none, some (.long (md_qa x4).2.1), none, some (.long (md_qa x4).2.2.1), none, some (.long (md_qa x4).2.2.2), none] [] I (zk_u J 12 z)
  generalize (md_qa x4) = x5 at hR ⊢
  refine zk_lload (pc' := 128) hC rfl ⟨dX5_hard_126, rfl⟩ ?_
  refine zk_lload (pc' := 130) hC rfl ⟨dX5_hard_128, rfl⟩ ?_
  refine zk_lxor (pc' := 131) hC ⟨dX5_hard_130, rfl⟩ ?_
  refine zk_bipush (pc' := 133) (x := nI 16) hC ⟨dX5_hard_131, rfl⟩ zc_bipush_16 ?_
  refine zk_callS1 (pc' := 136) hC ml_X5_100 ms_X5_turned (c_X5_turned X I _ _ (k := 16) (by decide)) (by decide) rfl rfl (Nat.le_of_ble_eq_true rfl) ⟨dX5_hard_133, rfl⟩ ?_
  refine zk_ls11 (pc' := 138) hC ⟨dX5_hard_136, rfl⟩ rfl ?_
  change zk_A 1 X E 138 [some (.ref (zk_ad X 0)), some (.int (nI a)), some (.int (nI b)), some (.int (nI c)), some (.int (nI d)), some (.long (md_qd x5 16).1), none, some (.long (md_qd x5 16).2.1), none, some (.long (md_qd x5 16).2.2.1), none, some (.long (md_qd x5 16).2.2.2), none] [] I (zk_u J 12 z)
  generalize (md_qd x5 16) = x6 at hR ⊢
  refine zk_lload (pc' := 140) hC rfl ⟨dX5_hard_138, rfl⟩ ?_
  refine zk_lload (pc' := 142) hC rfl ⟨dX5_hard_140, rfl⟩ ?_
  refine zk_ldc2 (pc' := 145) (x := 2) hC ⟨dX5_hard_142, rfl⟩ kl_X5_190 ?_
  refine zk_lload (pc' := 147) hC rfl ⟨dX5_hard_145, rfl⟩ ?_
  refine zk_callS1 (pc' := 150) hC ml_X5_192 ms_X5_half (c_X5_half X I _ _) (by decide) rfl rfl (Nat.le_of_ble_eq_true rfl) ⟨dX5_hard_147, rfl⟩ ?_
  refine zk_lmul (pc' := 151) hC ⟨dX5_hard_150, rfl⟩ ?_
  refine zk_lload (pc' := 153) hC rfl ⟨dX5_hard_151, rfl⟩ ?_
  refine zk_callS1 (pc' := 156) hC ml_X5_192 ms_X5_half (c_X5_half X I _ _) (by decide) rfl rfl (Nat.le_of_ble_eq_true rfl) ⟨dX5_hard_153, rfl⟩ ?_
  refine zk_lmul (pc' := 157) hC ⟨dX5_hard_156, rfl⟩ ?_
  refine zk_ladd (pc' := 158) hC ⟨dX5_hard_157, rfl⟩ ?_
  refine zk_ladd (pc' := 159) hC ⟨dX5_hard_158, rfl⟩ ?_
  refine zk_ls9 (pc' := 161) hC ⟨dX5_hard_159, rfl⟩ rfl ?_
  change zk_A 1 X E 161 [some (.ref (zk_ad X 0)), some (.int (nI a)), some (.int (nI b)), some (.int (nI c)), some (.int (nI d)), some (.long (md_qc x6).1), none, some (.long (md_qc x6).2.1), none, some (.long (md_qc x6).2.2.1), none, some (.long (md_qc x6).2.2.2), none] [] I (zk_u J 12 z)
  generalize (md_qc x6) = x7 at hR ⊢
  refine zk_lload (pc' := 163) hC rfl ⟨dX5_hard_161, rfl⟩ ?_
  refine zk_lload (pc' := 165) hC rfl ⟨dX5_hard_163, rfl⟩ ?_
  refine zk_lxor (pc' := 166) hC ⟨dX5_hard_165, rfl⟩ ?_
  refine zk_bipush (pc' := 168) (x := nI 63) hC ⟨dX5_hard_166, rfl⟩ zc_bipush_63 ?_
  refine zk_callS1 (pc' := 171) hC ml_X5_100 ms_X5_turned (c_X5_turned X I _ _ (k := 63) (by decide)) (by decide) rfl rfl (Nat.le_of_ble_eq_true rfl) ⟨dX5_hard_168, rfl⟩ ?_
  refine zk_ls7 (pc' := 173) hC ⟨dX5_hard_171, rfl⟩ rfl ?_
  change zk_A 1 X E 173 [some (.ref (zk_ad X 0)), some (.int (nI a)), some (.int (nI b)), some (.int (nI c)), some (.int (nI d)), some (.long (md_qb x7 63).1), none, some (.long (md_qb x7 63).2.1), none, some (.long (md_qb x7 63).2.2.1), none, some (.long (md_qb x7 63).2.2.2), none] [] I (zk_u J 12 z)
  generalize (md_qb x7 63) = x8 at hR ⊢
  refine zk_aload_n (pc' := 174) hC rfl ⟨dX5_hard_173, rfl⟩ ?_
  refine zk_getr (pc' := 177) hC fl_X5_44 (by first | decide | assumption | omega) (by first | rfl | assumption) rfl ⟨dX5_hard_174, rfl⟩ ?_
  refine zk_iload_n (pc' := 178) hC rfl ⟨dX5_hard_177, rfl⟩ ?_
  refine zk_lload (pc' := 180) hC rfl ⟨dX5_hard_178, rfl⟩ ?_
  first | refine zk_lastU (pc' := 181) hC (by first | decide | assumption | omega) (by first | rfl | assumption) (by omega) (by first | decide | omega) ⟨dX5_hard_180, rfl⟩ ?_ | refine zk_lastN (pc' := 181) hC (by first | decide | assumption | omega) (by first | rfl | assumption) (by omega) (by first | decide | omega) ⟨dX5_hard_180, rfl⟩ ?_
  refine zk_aload_n (pc' := 182) hC rfl ⟨dX5_hard_181, rfl⟩ ?_
  refine zk_getr (pc' := 185) hC fl_X5_44 (by first | decide | assumption | omega) (by first | rfl | assumption) rfl ⟨dX5_hard_182, rfl⟩ ?_
  refine zk_iload_n (pc' := 186) hC rfl ⟨dX5_hard_185, rfl⟩ ?_
  refine zk_lload (pc' := 188) hC rfl ⟨dX5_hard_186, rfl⟩ ?_
  first | refine zk_lastU (pc' := 189) hC (by first | decide | assumption | omega) (by first | rfl | assumption) (by omega) (by first | decide | omega) ⟨dX5_hard_188, rfl⟩ ?_ | refine zk_lastN (pc' := 189) hC (by first | decide | assumption | omega) (by first | rfl | assumption) (by omega) (by first | decide | omega) ⟨dX5_hard_188, rfl⟩ ?_
  refine zk_aload_n (pc' := 190) hC rfl ⟨dX5_hard_189, rfl⟩ ?_
  refine zk_getr (pc' := 193) hC fl_X5_44 (by first | decide | assumption | omega) (by first | rfl | assumption) rfl ⟨dX5_hard_190, rfl⟩ ?_
  refine zk_iload_n (pc' := 194) hC rfl ⟨dX5_hard_193, rfl⟩ ?_
  refine zk_lload (pc' := 196) hC rfl ⟨dX5_hard_194, rfl⟩ ?_
  first | refine zk_lastU (pc' := 197) hC (by first | decide | assumption | omega) (by first | rfl | assumption) (by omega) (by first | decide | omega) ⟨dX5_hard_196, rfl⟩ ?_ | refine zk_lastN (pc' := 197) hC (by first | decide | assumption | omega) (by first | rfl | assumption) (by omega) (by first | decide | omega) ⟨dX5_hard_196, rfl⟩ ?_
  refine zk_aload_n (pc' := 198) hC rfl ⟨dX5_hard_197, rfl⟩ ?_
  refine zk_getr (pc' := 201) hC fl_X5_44 (by first | decide | assumption | omega) (by first | rfl | assumption) rfl ⟨dX5_hard_198, rfl⟩ ?_
  refine zk_iload (pc' := 203) hC rfl ⟨dX5_hard_201, rfl⟩ ?_
  refine zk_lload (pc' := 205) hC rfl ⟨dX5_hard_203, rfl⟩ ?_
  first | refine zk_lastU (pc' := 206) hC (by first | decide | assumption | omega) (by first | rfl | assumption) (by omega) (by first | decide | omega) ⟨dX5_hard_205, rfl⟩ ?_ | refine zk_lastN (pc' := 206) hC (by first | decide | assumption | omega) (by first | rfl | assumption) (by omega) (by first | decide | omega) ⟨dX5_hard_205, rfl⟩ ?_
  exact zk_vret (pc' := 207) hC hR rfl rfl rfl ⟨dX5_hard_206, rfl⟩

set_option maxHeartbeats 1000000 in
set_option maxRecDepth 100000 in
theorem c_X5_spot (X : zk_X) (I : zk_I) (J : zk_J) {fr b k : Nat} (hb : b < 2) (hk : k < 16) : zk_M 1 X yX5_spot cX5_spot 3 ((some .int)) (0, 0) [.int (nI fr), .int (nI b), .int (nI k)] I J (some (.int (nI (md_sp fr b k)))) I J := by
  refine zk_M.intro (by decide) (lv := [some (.int (nI fr)), some (.int (nI b)), some (.int (nI k))]) rfl rfl (fun E hC hR => ?_)
  refine zk_iload_n (pc' := 1) hC rfl ⟨dX5_spot_0, rfl⟩ ?_
  refine zk_if_eqN (pc' := 4) hC ⟨dX5_spot_1, rfl⟩ 19 (by decide) (by omega) (fun q => ?_) (fun q => ?_)
  · rw [md_sp, if_pos q] at hR
    refine zk_iload_n (pc' := 20) hC rfl ⟨dX5_spot_19, rfl⟩ ?_
    refine zk_iload_n (pc' := 21) hC rfl ⟨dX5_spot_20, rfl⟩ ?_
    first | refine zk_iaddN (pc' := 22) hC ⟨dX5_spot_21, rfl⟩ ?_ | refine zk_iadd (pc' := 22) hC ⟨dX5_spot_21, rfl⟩ ?_
    exact zk_iret (pc' := 23) hC hR rfl rfl rfl ⟨dX5_spot_22, rfl⟩
  · rw [md_sp, if_neg q] at hR
    refine zk_iload_n (pc' := 5) hC rfl ⟨dX5_spot_4, rfl⟩ ?_
    refine zk_bipush (pc' := 7) (x := nI 16) hC ⟨dX5_spot_5, rfl⟩ zc_bipush_16 ?_
    refine zk_iload_n (pc' := 8) hC rfl ⟨dX5_spot_7, rfl⟩ ?_
    refine zk_iconst (pc' := 9) (x := nI 2) hC ⟨dX5_spot_8, rfl⟩ zc_iconst_2 ?_
    first | refine zk_idivN (pc' := 10) hC ⟨dX5_spot_9, rfl⟩ (by omega) (by omega) (by omega) ?_ | refine zk_idiv (pc' := 10) hC ⟨dX5_spot_9, rfl⟩ (by first | assumption | decide) ?_
    first | refine zk_imulN (pc' := 11) hC ⟨dX5_spot_10, rfl⟩ ?_ | refine zk_imul (pc' := 11) hC ⟨dX5_spot_10, rfl⟩ ?_
    first | refine zk_iaddN (pc' := 12) hC ⟨dX5_spot_11, rfl⟩ ?_ | refine zk_iadd (pc' := 12) hC ⟨dX5_spot_11, rfl⟩ ?_
    refine zk_iload_n (pc' := 13) hC rfl ⟨dX5_spot_12, rfl⟩ ?_
    refine zk_iconst (pc' := 14) (x := nI 2) hC ⟨dX5_spot_13, rfl⟩ zc_iconst_2 ?_
    first | refine zk_iremN (pc' := 15) hC ⟨dX5_spot_14, rfl⟩ (by omega) (by omega) (by omega) ?_ | refine zk_irem (pc' := 15) hC ⟨dX5_spot_14, rfl⟩ (by first | assumption | decide) ?_
    first | refine zk_iaddN (pc' := 16) hC ⟨dX5_spot_15, rfl⟩ ?_ | refine zk_iadd (pc' := 16) hC ⟨dX5_spot_15, rfl⟩ ?_
    refine zk_goto (pc' := 19) hC ⟨dX5_spot_16, rfl⟩ 22 (by decide) ?_
    exact zk_iret (pc' := 23) hC hR rfl rfl rfl ⟨dX5_spot_22, rfl⟩

set_option maxHeartbeats 1000000 in
set_option maxRecDepth 100000 in
theorem c_X5_quarter (X : zk_X) (I : zk_I) (J : zk_J) {fr b x y u w : Nat} (hb : b < 2) (hfr : (b = 0 ∧ fr + 16 ≤ 128) ∨ (b = 1 ∧ fr + 114 ≤ 128)) (hx : x < 16) (hy : y < 16) (hu : u < 16) (hw : w < 16) : zk_M 1 X yX5_quarter cX5_quarter 7 none (2, 54) [.ref (zk_ad X 0), .int (nI fr), .int (nI b), .int (nI x), .int (nI y), .int (nI u), .int (nI w)] I J none I (zk_u J 12 (md_qt (J 12) fr b x y u w)) := by
  refine zk_M.intro (by decide) (lv := [some (.ref (zk_ad X 0)), some (.int (nI fr)), some (.int (nI b)), some (.int (nI x)), some (.int (nI y)), some (.int (nI u)), some (.int (nI w))]) rfl rfl (fun E hC hR => ?_)
  have hsp : ∀ k, k < 16 → md_sp fr b k < 128 := fun k hk => by have := hfr; unfold md_sp; split <;> omega
  refine zk_aload_n (pc' := 1) hC rfl ⟨dX5_quarter_0, rfl⟩ ?_
  refine zk_iload_n (pc' := 2) hC rfl ⟨dX5_quarter_1, rfl⟩ ?_
  refine zk_iload_n (pc' := 3) hC rfl ⟨dX5_quarter_2, rfl⟩ ?_
  refine zk_iload_n (pc' := 4) hC rfl ⟨dX5_quarter_3, rfl⟩ ?_
  refine zk_callS1 (pc' := 7) hC ml_X5_196 ms_X5_spot (c_X5_spot X I J (fr := fr) (b := b) (k := x) hb hx) (by decide) rfl rfl (Nat.le_of_ble_eq_true rfl) ⟨dX5_quarter_4, rfl⟩ ?_
  refine zk_iload_n (pc' := 8) hC rfl ⟨dX5_quarter_7, rfl⟩ ?_
  refine zk_iload_n (pc' := 9) hC rfl ⟨dX5_quarter_8, rfl⟩ ?_
  refine zk_iload (pc' := 11) hC rfl ⟨dX5_quarter_9, rfl⟩ ?_
  refine zk_callS1 (pc' := 14) hC ml_X5_196 ms_X5_spot (c_X5_spot X I J (fr := fr) (b := b) (k := y) hb hy) (by decide) rfl rfl (Nat.le_of_ble_eq_true rfl) ⟨dX5_quarter_11, rfl⟩ ?_
  refine zk_iload_n (pc' := 15) hC rfl ⟨dX5_quarter_14, rfl⟩ ?_
  refine zk_iload_n (pc' := 16) hC rfl ⟨dX5_quarter_15, rfl⟩ ?_
  refine zk_iload (pc' := 18) hC rfl ⟨dX5_quarter_16, rfl⟩ ?_
  refine zk_callS1 (pc' := 21) hC ml_X5_196 ms_X5_spot (c_X5_spot X I J (fr := fr) (b := b) (k := u) hb hu) (by decide) rfl rfl (Nat.le_of_ble_eq_true rfl) ⟨dX5_quarter_18, rfl⟩ ?_
  refine zk_iload_n (pc' := 22) hC rfl ⟨dX5_quarter_21, rfl⟩ ?_
  refine zk_iload_n (pc' := 23) hC rfl ⟨dX5_quarter_22, rfl⟩ ?_
  refine zk_iload (pc' := 25) hC rfl ⟨dX5_quarter_23, rfl⟩ ?_
  refine zk_callS1 (pc' := 28) hC ml_X5_196 ms_X5_spot (c_X5_spot X I J (fr := fr) (b := b) (k := w) hb hw) (by decide) rfl rfl (Nat.le_of_ble_eq_true rfl) ⟨dX5_quarter_25, rfl⟩ ?_
  refine zk_callV0 (pc' := 31) hC ml_X5_200 mi_X5_hard (c_X5_hard X I J (hsp x hx) (hsp y hy) (hsp u hu) (hsp w hw)) (by decide) (by first | decide | assumption | omega) (by first | rfl | assumption) rfl rfl rfl (Nat.le_of_ble_eq_true rfl) ⟨dX5_quarter_28, rfl⟩ ?_
  exact zk_vret (pc' := 32) hC hR rfl rfl rfl ⟨dX5_quarter_31, rfl⟩

set_option maxHeartbeats 1000000 in
set_option maxRecDepth 100000 in
theorem c_X5_stir (X : zk_X) (I : zk_I) (J : zk_J) {fr b : Nat} (hb : b < 2) (hfr : (b = 0 ∧ fr + 16 ≤ 128) ∨ (b = 1 ∧ fr + 114 ≤ 128)) : zk_M 1 X yX5_stir cX5_stir 3 none (3, 80) [.ref (zk_ad X 0), .int (nI fr), .int (nI b)] I J none I (zk_u J 12 (md_st (J 12) fr b)) := by
  refine zk_M.intro (by decide) (lv := [some (.ref (zk_ad X 0)), some (.int (nI fr)), some (.int (nI b))]) rfl rfl (fun E hC hR => ?_)
  refine zk_eqJ (J' := zk_u J 12 (J 12)) (zk_u_self J 12).symm ?_
  unfold md_st at hR
  generalize J 12 = z0 at hR ⊢
  refine zk_aload_n (pc' := 1) hC rfl ⟨dX5_stir_0, rfl⟩ ?_
  refine zk_iload_n (pc' := 2) hC rfl ⟨dX5_stir_1, rfl⟩ ?_
  refine zk_iload_n (pc' := 3) hC rfl ⟨dX5_stir_2, rfl⟩ ?_
  refine zk_iconst (pc' := 4) (x := nI 0) hC ⟨dX5_stir_3, rfl⟩ zc_iconst_0 ?_
  refine zk_iconst (pc' := 5) (x := nI 4) hC ⟨dX5_stir_4, rfl⟩ zc_iconst_4 ?_
  refine zk_bipush (pc' := 7) (x := nI 8) hC ⟨dX5_stir_5, rfl⟩ zc_bipush_8 ?_
  refine zk_bipush (pc' := 9) (x := nI 12) hC ⟨dX5_stir_7, rfl⟩ zc_bipush_12 ?_
  refine zk_callV0 (pc' := 12) hC ml_X5_204 mi_X5_quarter (c_X5_quarter X I _ (fr := fr) (b := b) hb hfr (by decide) (by decide) (by decide) (by decide)) (by decide) (by first | decide | assumption | omega) (by first | rfl | assumption) rfl rfl rfl (Nat.le_of_ble_eq_true rfl) ⟨dX5_stir_9, rfl⟩ ?_
  rw [zk_u_s, zk_u_u]
  generalize md_qt z0 fr b 0 4 8 12 = z1 at hR ⊢
  refine zk_aload_n (pc' := 13) hC rfl ⟨dX5_stir_12, rfl⟩ ?_
  refine zk_iload_n (pc' := 14) hC rfl ⟨dX5_stir_13, rfl⟩ ?_
  refine zk_iload_n (pc' := 15) hC rfl ⟨dX5_stir_14, rfl⟩ ?_
  refine zk_iconst (pc' := 16) (x := nI 1) hC ⟨dX5_stir_15, rfl⟩ zc_iconst_1 ?_
  refine zk_iconst (pc' := 17) (x := nI 5) hC ⟨dX5_stir_16, rfl⟩ zc_iconst_5 ?_
  refine zk_bipush (pc' := 19) (x := nI 9) hC ⟨dX5_stir_17, rfl⟩ zc_bipush_9 ?_
  refine zk_bipush (pc' := 21) (x := nI 13) hC ⟨dX5_stir_19, rfl⟩ zc_bipush_13 ?_
  refine zk_callV0 (pc' := 24) hC ml_X5_204 mi_X5_quarter (c_X5_quarter X I _ (fr := fr) (b := b) hb hfr (by decide) (by decide) (by decide) (by decide)) (by decide) (by first | decide | assumption | omega) (by first | rfl | assumption) rfl rfl rfl (Nat.le_of_ble_eq_true rfl) ⟨dX5_stir_21, rfl⟩ ?_
  rw [zk_u_s, zk_u_u]
  generalize md_qt z1 fr b 1 5 9 13 = z2 at hR ⊢
  refine zk_aload_n (pc' := 25) hC rfl ⟨dX5_stir_24, rfl⟩ ?_
  refine zk_iload_n (pc' := 26) hC rfl ⟨dX5_stir_25, rfl⟩ ?_
  refine zk_iload_n (pc' := 27) hC rfl ⟨dX5_stir_26, rfl⟩ ?_
  refine zk_iconst (pc' := 28) (x := nI 2) hC ⟨dX5_stir_27, rfl⟩ zc_iconst_2 ?_
  refine zk_bipush (pc' := 30) (x := nI 6) hC ⟨dX5_stir_28, rfl⟩ zc_bipush_6 ?_
  refine zk_bipush (pc' := 32) (x := nI 10) hC ⟨dX5_stir_30, rfl⟩ zc_bipush_10 ?_
  refine zk_bipush (pc' := 34) (x := nI 14) hC ⟨dX5_stir_32, rfl⟩ zc_bipush_14 ?_
  refine zk_callV0 (pc' := 37) hC ml_X5_204 mi_X5_quarter (c_X5_quarter X I _ (fr := fr) (b := b) hb hfr (by decide) (by decide) (by decide) (by decide)) (by decide) (by first | decide | assumption | omega) (by first | rfl | assumption) rfl rfl rfl (Nat.le_of_ble_eq_true rfl) ⟨dX5_stir_34, rfl⟩ ?_
  rw [zk_u_s, zk_u_u]
  generalize md_qt z2 fr b 2 6 10 14 = z3 at hR ⊢
  refine zk_aload_n (pc' := 38) hC rfl ⟨dX5_stir_37, rfl⟩ ?_
  refine zk_iload_n (pc' := 39) hC rfl ⟨dX5_stir_38, rfl⟩ ?_
  refine zk_iload_n (pc' := 40) hC rfl ⟨dX5_stir_39, rfl⟩ ?_
  refine zk_iconst (pc' := 41) (x := nI 3) hC ⟨dX5_stir_40, rfl⟩ zc_iconst_3 ?_
  refine zk_bipush (pc' := 43) (x := nI 7) hC ⟨dX5_stir_41, rfl⟩ zc_bipush_7 ?_
  refine zk_bipush (pc' := 45) (x := nI 11) hC ⟨dX5_stir_43, rfl⟩ zc_bipush_11 ?_
  refine zk_bipush (pc' := 47) (x := nI 15) hC ⟨dX5_stir_45, rfl⟩ zc_bipush_15 ?_
  refine zk_callV0 (pc' := 50) hC ml_X5_204 mi_X5_quarter (c_X5_quarter X I _ (fr := fr) (b := b) hb hfr (by decide) (by decide) (by decide) (by decide)) (by decide) (by first | decide | assumption | omega) (by first | rfl | assumption) rfl rfl rfl (Nat.le_of_ble_eq_true rfl) ⟨dX5_stir_47, rfl⟩ ?_
  rw [zk_u_s, zk_u_u]
  generalize md_qt z3 fr b 3 7 11 15 = z4 at hR ⊢
  refine zk_aload_n (pc' := 51) hC rfl ⟨dX5_stir_50, rfl⟩ ?_
  refine zk_iload_n (pc' := 52) hC rfl ⟨dX5_stir_51, rfl⟩ ?_
  refine zk_iload_n (pc' := 53) hC rfl ⟨dX5_stir_52, rfl⟩ ?_
  refine zk_iconst (pc' := 54) (x := nI 0) hC ⟨dX5_stir_53, rfl⟩ zc_iconst_0 ?_
  refine zk_iconst (pc' := 55) (x := nI 5) hC ⟨dX5_stir_54, rfl⟩ zc_iconst_5 ?_
  refine zk_bipush (pc' := 57) (x := nI 10) hC ⟨dX5_stir_55, rfl⟩ zc_bipush_10 ?_
  refine zk_bipush (pc' := 59) (x := nI 15) hC ⟨dX5_stir_57, rfl⟩ zc_bipush_15 ?_
  refine zk_callV0 (pc' := 62) hC ml_X5_204 mi_X5_quarter (c_X5_quarter X I _ (fr := fr) (b := b) hb hfr (by decide) (by decide) (by decide) (by decide)) (by decide) (by first | decide | assumption | omega) (by first | rfl | assumption) rfl rfl rfl (Nat.le_of_ble_eq_true rfl) ⟨dX5_stir_59, rfl⟩ ?_
  rw [zk_u_s, zk_u_u]
  generalize md_qt z4 fr b 0 5 10 15 = z5 at hR ⊢
  refine zk_aload_n (pc' := 63) hC rfl ⟨dX5_stir_62, rfl⟩ ?_
  refine zk_iload_n (pc' := 64) hC rfl ⟨dX5_stir_63, rfl⟩ ?_
  refine zk_iload_n (pc' := 65) hC rfl ⟨dX5_stir_64, rfl⟩ ?_
  refine zk_iconst (pc' := 66) (x := nI 1) hC ⟨dX5_stir_65, rfl⟩ zc_iconst_1 ?_
  refine zk_bipush (pc' := 68) (x := nI 6) hC ⟨dX5_stir_66, rfl⟩ zc_bipush_6 ?_
  refine zk_bipush (pc' := 70) (x := nI 11) hC ⟨dX5_stir_68, rfl⟩ zc_bipush_11 ?_
  refine zk_bipush (pc' := 72) (x := nI 12) hC ⟨dX5_stir_70, rfl⟩ zc_bipush_12 ?_
  refine zk_callV0 (pc' := 75) hC ml_X5_204 mi_X5_quarter (c_X5_quarter X I _ (fr := fr) (b := b) hb hfr (by decide) (by decide) (by decide) (by decide)) (by decide) (by first | decide | assumption | omega) (by first | rfl | assumption) rfl rfl rfl (Nat.le_of_ble_eq_true rfl) ⟨dX5_stir_72, rfl⟩ ?_
  rw [zk_u_s, zk_u_u]
  generalize md_qt z5 fr b 1 6 11 12 = z6 at hR ⊢
  refine zk_aload_n (pc' := 76) hC rfl ⟨dX5_stir_75, rfl⟩ ?_
  refine zk_iload_n (pc' := 77) hC rfl ⟨dX5_stir_76, rfl⟩ ?_
  refine zk_iload_n (pc' := 78) hC rfl ⟨dX5_stir_77, rfl⟩ ?_
  refine zk_iconst (pc' := 79) (x := nI 2) hC ⟨dX5_stir_78, rfl⟩ zc_iconst_2 ?_
  refine zk_bipush (pc' := 81) (x := nI 7) hC ⟨dX5_stir_79, rfl⟩ zc_bipush_7 ?_
  refine zk_bipush (pc' := 83) (x := nI 8) hC ⟨dX5_stir_81, rfl⟩ zc_bipush_8 ?_
  refine zk_bipush (pc' := 85) (x := nI 13) hC ⟨dX5_stir_83, rfl⟩ zc_bipush_13 ?_
  refine zk_callV0 (pc' := 88) hC ml_X5_204 mi_X5_quarter (c_X5_quarter X I _ (fr := fr) (b := b) hb hfr (by decide) (by decide) (by decide) (by decide)) (by decide) (by first | decide | assumption | omega) (by first | rfl | assumption) rfl rfl rfl (Nat.le_of_ble_eq_true rfl) ⟨dX5_stir_85, rfl⟩ ?_
  rw [zk_u_s, zk_u_u]
  generalize md_qt z6 fr b 2 7 8 13 = z7 at hR ⊢
  refine zk_aload_n (pc' := 89) hC rfl ⟨dX5_stir_88, rfl⟩ ?_
  refine zk_iload_n (pc' := 90) hC rfl ⟨dX5_stir_89, rfl⟩ ?_
  refine zk_iload_n (pc' := 91) hC rfl ⟨dX5_stir_90, rfl⟩ ?_
  refine zk_iconst (pc' := 92) (x := nI 3) hC ⟨dX5_stir_91, rfl⟩ zc_iconst_3 ?_
  refine zk_iconst (pc' := 93) (x := nI 4) hC ⟨dX5_stir_92, rfl⟩ zc_iconst_4 ?_
  refine zk_bipush (pc' := 95) (x := nI 9) hC ⟨dX5_stir_93, rfl⟩ zc_bipush_9 ?_
  refine zk_bipush (pc' := 97) (x := nI 14) hC ⟨dX5_stir_95, rfl⟩ zc_bipush_14 ?_
  refine zk_callV0 (pc' := 100) hC ml_X5_204 mi_X5_quarter (c_X5_quarter X I _ (fr := fr) (b := b) hb hfr (by decide) (by decide) (by decide) (by decide)) (by decide) (by first | decide | assumption | omega) (by first | rfl | assumption) rfl rfl rfl (Nat.le_of_ble_eq_true rfl) ⟨dX5_stir_97, rfl⟩ ?_
  rw [zk_u_s, zk_u_u]
  generalize md_qt z7 fr b 3 4 9 14 = z8 at hR ⊢
  exact zk_vret (pc' := 101) hC hR rfl rfl rfl ⟨dX5_stir_100, rfl⟩

set_option maxHeartbeats 1000000 in
set_option maxRecDepth 100000 in
theorem c_X5_join (X : zk_X) (I : zk_I) (J : zk_J)  : zk_M 1 X yX5_join cX5_join 2 none (4, 102) [.ref (zk_ad X 0)] I J none I (zk_u J 12 (md_j J)) := by
  refine zk_M.intro (by decide) (lv := [some (.ref (zk_ad X 0)), none]) rfl rfl (fun E hC hR => ?_)
  refine zk_iconst (pc' := 1) (x := nI 0) hC ⟨dX5_join_0, rfl⟩ zc_iconst_0 ?_
  refine zk_is1 (pc' := 2) hC ⟨dX5_join_1, rfl⟩ rfl ?_
  refine zk_eqJ (J' := zk_u J 12 (fz_fill (J 12) (md_x J) 0)) (by rw [fz_0, zk_u_self]) ?_
  refine zk_up (P := fun k => zk_A 1 X E 2 [some (.ref (zk_ad X 0)), some (.int (nI k))] [] I (zk_u J 12 (fz_fill (J 12) (md_x J) k))) 128 ?_ (fun k hk ih => ?_)
  · skip
    refine zk_iload_n (pc' := 3) hC rfl ⟨dX5_join_2, rfl⟩ ?_
    refine zk_sipush (pc' := 6) (x := nI 128) hC ⟨dX5_join_3, rfl⟩ zc_sipush_128 ?_
    refine zk_icmp_geN (pc' := 9) hC ⟨dX5_join_6, rfl⟩ 34 (by decide) (by omega) (by omega) (fun q => ?_) (fun q => ?_)
    · unfold md_j at hR
      have hz : md_z J = md_cols (md_rows (fz_fill (J 12) (md_x J) 128) 8) 8 := rfl
      generalize md_z J = Z at hR hz
      generalize fz_fill (J 12) (md_x J) 128 = z0 at hz ⊢
      refine zk_iconst (pc' := 35) (x := nI 0) hC ⟨dX5_join_34, rfl⟩ zc_iconst_0 ?_
      refine zk_is1 (pc' := 36) hC ⟨dX5_join_35, rfl⟩ rfl ?_
      refine zk_up (P := fun k => zk_A 1 X E 36 [some (.ref (zk_ad X 0)), some (.int (nI k))] [] I (zk_u J 12 (md_rows z0 k))) 8 ?_ (fun k hk ih => ?_)
      · skip
        refine zk_iload_n (pc' := 37) hC rfl ⟨dX5_join_36, rfl⟩ ?_
        refine zk_bipush (pc' := 39) (x := nI 8) hC ⟨dX5_join_37, rfl⟩ zc_bipush_8 ?_
        refine zk_icmp_geN (pc' := 42) hC ⟨dX5_join_39, rfl⟩ 57 (by decide) (by omega) (by omega) (fun q2 => ?_) (fun q2 => ?_)
        · generalize md_rows z0 8 = z1 at hz ⊢
          refine zk_iconst (pc' := 58) (x := nI 0) hC ⟨dX5_join_57, rfl⟩ zc_iconst_0 ?_
          refine zk_is1 (pc' := 59) hC ⟨dX5_join_58, rfl⟩ rfl ?_
          refine zk_up (P := fun k => zk_A 1 X E 59 [some (.ref (zk_ad X 0)), some (.int (nI k))] [] I (zk_u J 12 (md_cols z1 k))) 8 ?_ (fun k hk ih => ?_)
          · skip
            refine zk_iload_n (pc' := 60) hC rfl ⟨dX5_join_59, rfl⟩ ?_
            refine zk_bipush (pc' := 62) (x := nI 8) hC ⟨dX5_join_60, rfl⟩ zc_bipush_8 ?_
            refine zk_icmp_geN (pc' := 65) hC ⟨dX5_join_62, rfl⟩ 79 (by decide) (by omega) (by omega) (fun q3 => ?_) (fun q3 => ?_)
            · rw [← hz]
              refine zk_iconst (pc' := 80) (x := nI 0) hC ⟨dX5_join_79, rfl⟩ zc_iconst_0 ?_
              refine zk_is1 (pc' := 81) hC ⟨dX5_join_80, rfl⟩ rfl ?_
              refine zk_eqJ (J' := zk_u J 12 (fz_fill Z (fun k => Z k ^^^ (J 10 k ^^^ J 11 k)) 0)) (by rw [fz_0]) ?_
              refine zk_up (P := fun k => zk_A 1 X E 81 [some (.ref (zk_ad X 0)), some (.int (nI k))] [] I (zk_u J 12 (fz_fill Z (fun k => Z k ^^^ (J 10 k ^^^ J 11 k)) k))) 128 ?_ (fun k hk ih => ?_)
              · skip
                refine zk_iload_n (pc' := 82) hC rfl ⟨dX5_join_81, rfl⟩ ?_
                refine zk_sipush (pc' := 85) (x := nI 128) hC ⟨dX5_join_82, rfl⟩ zc_sipush_128 ?_
                refine zk_icmp_geN (pc' := 88) hC ⟨dX5_join_85, rfl⟩ 116 (by decide) (by omega) (by omega) (fun q4 => ?_) (fun q4 => ?_)
                · exact zk_vret (pc' := 117) hC hR rfl rfl rfl ⟨dX5_join_116, rfl⟩
                · omega
              · skip
                refine zk_iload_n (pc' := 82) hC rfl ⟨dX5_join_81, rfl⟩ ?_
                refine zk_sipush (pc' := 85) (x := nI 128) hC ⟨dX5_join_82, rfl⟩ zc_sipush_128 ?_
                refine zk_icmp_geN (pc' := 88) hC ⟨dX5_join_85, rfl⟩ 116 (by decide) (by omega) (by omega) (fun q4 => ?_) (fun q4 => ?_)
                · omega
                · refine zk_aload_n (pc' := 89) hC rfl ⟨dX5_join_88, rfl⟩ ?_
                  refine zk_getr (pc' := 92) hC fl_X5_44 (by first | decide | assumption | omega) (by first | rfl | assumption) rfl ⟨dX5_join_89, rfl⟩ ?_
                  refine zk_iload_n (pc' := 93) hC rfl ⟨dX5_join_92, rfl⟩ ?_
                  refine zk_dup2 (pc' := 94) hC ⟨dX5_join_93, rfl⟩ rfl rfl ?_
                  first | refine zk_laldU (pc' := 95) hC (by first | decide | assumption | omega) (by first | rfl | assumption) (by omega) (by first | decide | omega) ⟨dX5_join_94, rfl⟩ ?_ | refine zk_laldN (pc' := 95) hC (by first | decide | assumption | omega) (by first | rfl | assumption) (by omega) (by first | decide | omega) ⟨dX5_join_94, rfl⟩ ?_ | refine zk_t1N (pc' := 95) hC (by omega) ⟨dX5_join_94, rfl⟩ ?_
                  rw [fz_at (Nat.le_refl k)]
                  refine zk_aload_n (pc' := 96) hC rfl ⟨dX5_join_95, rfl⟩ ?_
                  refine zk_getr (pc' := 99) hC fl_X5_38 (by first | decide | assumption | omega) (by first | rfl | assumption) rfl ⟨dX5_join_96, rfl⟩ ?_
                  refine zk_iload_n (pc' := 100) hC rfl ⟨dX5_join_99, rfl⟩ ?_
                  first | refine zk_laldU (pc' := 101) hC (by first | decide | assumption | omega) (by first | rfl | assumption) (by omega) (by first | decide | omega) ⟨dX5_join_100, rfl⟩ ?_ | refine zk_laldN (pc' := 101) hC (by first | decide | assumption | omega) (by first | rfl | assumption) (by omega) (by first | decide | omega) ⟨dX5_join_100, rfl⟩ ?_ | refine zk_t1N (pc' := 101) hC (by omega) ⟨dX5_join_100, rfl⟩ ?_
                  rw [zk_u_n (show 10 ≠ 12 by decide)]
                  refine zk_aload_n (pc' := 102) hC rfl ⟨dX5_join_101, rfl⟩ ?_
                  refine zk_getr (pc' := 105) hC fl_X5_41 (by first | decide | assumption | omega) (by first | rfl | assumption) rfl ⟨dX5_join_102, rfl⟩ ?_
                  refine zk_iload_n (pc' := 106) hC rfl ⟨dX5_join_105, rfl⟩ ?_
                  first | refine zk_laldU (pc' := 107) hC (by first | decide | assumption | omega) (by first | rfl | assumption) (by omega) (by first | decide | omega) ⟨dX5_join_106, rfl⟩ ?_ | refine zk_laldN (pc' := 107) hC (by first | decide | assumption | omega) (by first | rfl | assumption) (by omega) (by first | decide | omega) ⟨dX5_join_106, rfl⟩ ?_ | refine zk_t1N (pc' := 107) hC (by omega) ⟨dX5_join_106, rfl⟩ ?_
                  rw [zk_u_n (show 11 ≠ 12 by decide)]
                  refine zk_lxor (pc' := 108) hC ⟨dX5_join_107, rfl⟩ ?_
                  refine zk_lxor (pc' := 109) hC ⟨dX5_join_108, rfl⟩ ?_
                  first | refine zk_lastU (pc' := 110) hC (by first | decide | assumption | omega) (by first | rfl | assumption) (by omega) (by first | decide | omega) ⟨dX5_join_109, rfl⟩ ?_ | refine zk_lastN (pc' := 110) hC (by first | decide | assumption | omega) (by first | rfl | assumption) (by omega) (by first | decide | omega) ⟨dX5_join_109, rfl⟩ ?_
                  rw [fz_S _ _ k rfl]
                  first | refine zk_in1 (pc' := 113) hC ⟨dX5_join_110, rfl⟩ ?_ | refine zk_iincG (pc' := 113) hC ⟨dX5_join_110, rfl⟩ rfl ?_
                  refine zk_goto (pc' := 116) hC ⟨dX5_join_113, rfl⟩ 81 (by decide) ?_
                  exact ih
            · omega
          · skip
            refine zk_iload_n (pc' := 60) hC rfl ⟨dX5_join_59, rfl⟩ ?_
            refine zk_bipush (pc' := 62) (x := nI 8) hC ⟨dX5_join_60, rfl⟩ zc_bipush_8 ?_
            refine zk_icmp_geN (pc' := 65) hC ⟨dX5_join_62, rfl⟩ 79 (by decide) (by omega) (by omega) (fun q3 => ?_) (fun q3 => ?_)
            · omega
            · refine zk_aload_n (pc' := 66) hC rfl ⟨dX5_join_65, rfl⟩ ?_
              refine zk_iconst (pc' := 67) (x := nI 2) hC ⟨dX5_join_66, rfl⟩ zc_iconst_2 ?_
              refine zk_iload_n (pc' := 68) hC rfl ⟨dX5_join_67, rfl⟩ ?_
              first | refine zk_imulN (pc' := 69) hC ⟨dX5_join_68, rfl⟩ ?_ | refine zk_imul (pc' := 69) hC ⟨dX5_join_68, rfl⟩ ?_
              refine zk_iconst (pc' := 70) (x := nI 1) hC ⟨dX5_join_69, rfl⟩ zc_iconst_1 ?_
              refine zk_callV0 (pc' := 73) hC ml_X5_208 mi_X5_stir (c_X5_stir X I _ (fr := 2 * k) (b := 1) (by decide) (by omega)) (by decide) (by first | decide | assumption | omega) (by first | rfl | assumption) rfl rfl rfl (Nat.le_of_ble_eq_true rfl) ⟨dX5_join_70, rfl⟩ ?_
              rw [zk_u_s, zk_u_u]
              first | refine zk_in1 (pc' := 76) hC ⟨dX5_join_73, rfl⟩ ?_ | refine zk_iincG (pc' := 76) hC ⟨dX5_join_73, rfl⟩ rfl ?_
              refine zk_goto (pc' := 79) hC ⟨dX5_join_76, rfl⟩ 59 (by decide) ?_
              exact ih
        · omega
      · skip
        refine zk_iload_n (pc' := 37) hC rfl ⟨dX5_join_36, rfl⟩ ?_
        refine zk_bipush (pc' := 39) (x := nI 8) hC ⟨dX5_join_37, rfl⟩ zc_bipush_8 ?_
        refine zk_icmp_geN (pc' := 42) hC ⟨dX5_join_39, rfl⟩ 57 (by decide) (by omega) (by omega) (fun q2 => ?_) (fun q2 => ?_)
        · omega
        · refine zk_aload_n (pc' := 43) hC rfl ⟨dX5_join_42, rfl⟩ ?_
          refine zk_bipush (pc' := 45) (x := nI 16) hC ⟨dX5_join_43, rfl⟩ zc_bipush_16 ?_
          refine zk_iload_n (pc' := 46) hC rfl ⟨dX5_join_45, rfl⟩ ?_
          first | refine zk_imulN (pc' := 47) hC ⟨dX5_join_46, rfl⟩ ?_ | refine zk_imul (pc' := 47) hC ⟨dX5_join_46, rfl⟩ ?_
          refine zk_iconst (pc' := 48) (x := nI 0) hC ⟨dX5_join_47, rfl⟩ zc_iconst_0 ?_
          refine zk_callV0 (pc' := 51) hC ml_X5_208 mi_X5_stir (c_X5_stir X I _ (fr := 16 * k) (b := 0) (by decide) (by omega)) (by decide) (by first | decide | assumption | omega) (by first | rfl | assumption) rfl rfl rfl (Nat.le_of_ble_eq_true rfl) ⟨dX5_join_48, rfl⟩ ?_
          rw [zk_u_s, zk_u_u]
          first | refine zk_in1 (pc' := 54) hC ⟨dX5_join_51, rfl⟩ ?_ | refine zk_iincG (pc' := 54) hC ⟨dX5_join_51, rfl⟩ rfl ?_
          refine zk_goto (pc' := 57) hC ⟨dX5_join_54, rfl⟩ 36 (by decide) ?_
          exact ih
    · omega
  · skip
    refine zk_iload_n (pc' := 3) hC rfl ⟨dX5_join_2, rfl⟩ ?_
    refine zk_sipush (pc' := 6) (x := nI 128) hC ⟨dX5_join_3, rfl⟩ zc_sipush_128 ?_
    refine zk_icmp_geN (pc' := 9) hC ⟨dX5_join_6, rfl⟩ 34 (by decide) (by omega) (by omega) (fun q => ?_) (fun q => ?_)
    · omega
    · refine zk_aload_n (pc' := 10) hC rfl ⟨dX5_join_9, rfl⟩ ?_
      refine zk_getr (pc' := 13) hC fl_X5_44 (by first | decide | assumption | omega) (by first | rfl | assumption) rfl ⟨dX5_join_10, rfl⟩ ?_
      refine zk_iload_n (pc' := 14) hC rfl ⟨dX5_join_13, rfl⟩ ?_
      refine zk_aload_n (pc' := 15) hC rfl ⟨dX5_join_14, rfl⟩ ?_
      refine zk_getr (pc' := 18) hC fl_X5_38 (by first | decide | assumption | omega) (by first | rfl | assumption) rfl ⟨dX5_join_15, rfl⟩ ?_
      refine zk_iload_n (pc' := 19) hC rfl ⟨dX5_join_18, rfl⟩ ?_
      first | refine zk_laldU (pc' := 20) hC (by first | decide | assumption | omega) (by first | rfl | assumption) (by omega) (by first | decide | omega) ⟨dX5_join_19, rfl⟩ ?_ | refine zk_laldN (pc' := 20) hC (by first | decide | assumption | omega) (by first | rfl | assumption) (by omega) (by first | decide | omega) ⟨dX5_join_19, rfl⟩ ?_ | refine zk_t1N (pc' := 20) hC (by omega) ⟨dX5_join_19, rfl⟩ ?_
      rw [zk_u_n (show 10 ≠ 12 by decide)]
      refine zk_aload_n (pc' := 21) hC rfl ⟨dX5_join_20, rfl⟩ ?_
      refine zk_getr (pc' := 24) hC fl_X5_41 (by first | decide | assumption | omega) (by first | rfl | assumption) rfl ⟨dX5_join_21, rfl⟩ ?_
      refine zk_iload_n (pc' := 25) hC rfl ⟨dX5_join_24, rfl⟩ ?_
      first | refine zk_laldU (pc' := 26) hC (by first | decide | assumption | omega) (by first | rfl | assumption) (by omega) (by first | decide | omega) ⟨dX5_join_25, rfl⟩ ?_ | refine zk_laldN (pc' := 26) hC (by first | decide | assumption | omega) (by first | rfl | assumption) (by omega) (by first | decide | omega) ⟨dX5_join_25, rfl⟩ ?_ | refine zk_t1N (pc' := 26) hC (by omega) ⟨dX5_join_25, rfl⟩ ?_
      rw [zk_u_n (show 11 ≠ 12 by decide)]
      refine zk_lxor (pc' := 27) hC ⟨dX5_join_26, rfl⟩ ?_
      first | refine zk_lastU (pc' := 28) hC (by first | decide | assumption | omega) (by first | rfl | assumption) (by omega) (by first | decide | omega) ⟨dX5_join_27, rfl⟩ ?_ | refine zk_lastN (pc' := 28) hC (by first | decide | assumption | omega) (by first | rfl | assumption) (by omega) (by first | decide | omega) ⟨dX5_join_27, rfl⟩ ?_
      rw [fz_S _ (md_x J) k (x := J 10 k ^^^ J 11 k) rfl]
      first | refine zk_in1 (pc' := 31) hC ⟨dX5_join_28, rfl⟩ ?_ | refine zk_iincG (pc' := 31) hC ⟨dX5_join_28, rfl⟩ rfl ?_
      refine zk_goto (pc' := 34) hC ⟨dX5_join_31, rfl⟩ 2 (by decide) ?_
      exact ih

/-- near, far, mixed, address -/
def md_set4 (J : zk_J) (n f x a : Nat → Int64) : zk_J := zk_u (zk_u (zk_u (zk_u J 10 n) 11 f) 12 x) 13 a
theorem md4_self (J : zk_J) : md_set4 J (J 10) (J 11) (J 12) (J 13) = J := by unfold md_set4; rw [zk_u_self, zk_u_self, zk_u_self, zk_u_self]
theorem md4_10 {J : zk_J} {n f x a : Nat → Int64} : md_set4 J n f x a 10 = n := by simp [md_set4, zk_u]
theorem md4_11 {J : zk_J} {n f x a : Nat → Int64} : md_set4 J n f x a 11 = f := by simp [md_set4, zk_u]
theorem md4_12 {J : zk_J} {n f x a : Nat → Int64} : md_set4 J n f x a 12 = x := by simp [md_set4, zk_u]
theorem md4_13 {J : zk_J} {n f x a : Nat → Int64} : md_set4 J n f x a 13 = a := by simp [md_set4, zk_u]
theorem md4_o {J : zk_J} {n f x a : Nat → Int64} {k : Nat} (h : k < 10) : md_set4 J n f x a k = J k := by
  have h1 : k ≠ 10 := by omega
  have h2 : k ≠ 11 := by omega
  have h3 : k ≠ 12 := by omega
  have h4 : k ≠ 13 := by omega
  simp [md_set4, zk_u, h1, h2, h3, h4]
theorem md4_u10 {J : zk_J} {n f x a y : Nat → Int64} : zk_u (md_set4 J n f x a) 10 y = md_set4 J y f x a := by
  funext k
  by_cases e : k = 10
  · subst e; simp [md_set4, zk_u]
  · simp [md_set4, zk_u, e]
theorem md4_u11 {J : zk_J} {n f x a y : Nat → Int64} : zk_u (md_set4 J n f x a) 11 y = md_set4 J n y x a := by
  funext k
  by_cases e : k = 11
  · subst e; simp [md_set4, zk_u]
  · simp [md_set4, zk_u, e]
theorem md4_u12 {J : zk_J} {n f x a y : Nat → Int64} : zk_u (md_set4 J n f x a) 12 y = md_set4 J n f y a := by
  funext k
  by_cases e : k = 12
  · subst e; simp [md_set4, zk_u]
  · simp [md_set4, zk_u, e]
theorem md4_u13 {J : zk_J} {n f x a y : Nat → Int64} : zk_u (md_set4 J n f x a) 13 y = md_set4 J n f x y := by
  funext k
  by_cases e : k = 13
  · subst e; simp [md_set4, zk_u]
  · simp [md_set4, zk_u, e]
def md_jx (n f x : Nat → Int64) : Nat → Int64 := md_cols (md_rows (fz_fill x (fun k => n k ^^^ f k) 128) 8) 8
def md_jj (n f x : Nat → Int64) : Nat → Int64 := fz_fill (md_jx n f x) (fun k => md_jx n f x k ^^^ (n k ^^^ f k)) 128
theorem md_j_eq (J : zk_J) : md_j J = md_jj (J 10) (J 11) (J 12) := rfl
def md_af (f : Nat → Int64) (pa la at' nb ps kd ct : Nat) : Nat → Int64 := vp_updL (vp_updL (vp_updL (vp_updL (vp_updL (vp_updL (vp_updL (fz_fill f (fun _ => lN 0) 128) 0 (lN pa)) 1 (lN la)) 2 (lN at')) 3 (lN nb)) 4 (lN ps)) 5 (lN kd)) 6 (lN ct)
def md_ma (J : zk_J) (pa la at' nb ps kd ct : Nat) : zk_J :=
  md_set4 J (fz_fill (J 10) (fun _ => lN 0) 128) (fz_fill (md_af (J 11) pa la at' nb ps kd ct) (md_jj (fz_fill (J 10) (fun _ => lN 0) 128) (md_af (J 11) pa la at' nb ps kd ct) (J 12)) 128)
    (md_jj (fz_fill (J 10) (fun _ => lN 0) 128) (fz_fill (md_af (J 11) pa la at' nb ps kd ct) (md_jj (fz_fill (J 10) (fun _ => lN 0) 128) (md_af (J 11) pa la at' nb ps kd ct) (J 12)) 128) (md_jj (fz_fill (J 10) (fun _ => lN 0) 128) (md_af (J 11) pa la at' nb ps kd ct) (J 12)))
    (fz_fill (J 13) (md_jj (fz_fill (J 10) (fun _ => lN 0) 128) (fz_fill (md_af (J 11) pa la at' nb ps kd ct) (md_jj (fz_fill (J 10) (fun _ => lN 0) 128) (md_af (J 11) pa la at' nb ps kd ct) (J 12)) 128) (md_jj (fz_fill (J 10) (fun _ => lN 0) 128) (md_af (J 11) pa la at' nb ps kd ct) (J 12))) 128)

set_option maxHeartbeats 1000000 in
set_option maxRecDepth 100000 in
theorem c_X5_makeAddress (X : zk_X) (I : zk_I) (J : zk_J) {g0 : Nat → Int32} {th ks sz bg kd ln ps tg sc dn : Nat} (hI : I 0 = md_g g0 th ks sz bg kd ln ps tg sc dn) {pa la ta ct : Nat} (h1 : pa ≤ 5) (h2 : la ≤ 4) (h3 : ta ≤ 4) (h4 : ct ≤ 4) (h5 : sc ≤ 32) (h6 : ln ≤ 4) (h7 : ps ≤ 5) (h8 : kd ≤ 2) : zk_M 1 X yX5_makeAddress cX5_makeAddress 6 none (5, 123) [.ref (zk_ad X 0), .int (nI pa), .int (nI la), .int (nI ta), .int (nI ct)] I J none I (md_ma J pa la ta (4 * sc * ln) ps kd ct) := by
  refine zk_M.intro (by decide) (lv := [some (.ref (zk_ad X 0)), some (.int (nI pa)), some (.int (nI la)), some (.int (nI ta)), some (.int (nI ct)), none]) rfl rfl (fun E hC hR => ?_)
  refine zk_iconst (pc' := 1) (x := nI 0) hC ⟨dX5_makeAddress_0, rfl⟩ zc_iconst_0 ?_
  refine zk_is5 (pc' := 3) hC ⟨dX5_makeAddress_1, rfl⟩ rfl ?_
  refine zk_eqJ (J' := md_set4 J (fz_fill (J 10) (fun _ => lN 0) 0) (fz_fill (J 11) (fun _ => lN 0) 0) (J 12) (J 13)) (by rw [fz_0, fz_0, md4_self]) ?_
  refine zk_up (P := fun k => zk_A 1 X E 3 [some (.ref (zk_ad X 0)), some (.int (nI pa)), some (.int (nI la)), some (.int (nI ta)), some (.int (nI ct)), some (.int (nI k))] [] I (md_set4 J (fz_fill (J 10) (fun _ => lN 0) k) (fz_fill (J 11) (fun _ => lN 0) k) (J 12) (J 13))) 128 ?_ (fun k hk ih => ?_)
  · skip
    refine zk_iload (pc' := 5) hC rfl ⟨dX5_makeAddress_3, rfl⟩ ?_
    refine zk_sipush (pc' := 8) (x := nI 128) hC ⟨dX5_makeAddress_5, rfl⟩ zc_sipush_128 ?_
    refine zk_icmp_geN (pc' := 11) hC ⟨dX5_makeAddress_8, rfl⟩ 33 (by decide) (by omega) (by omega) (fun q => ?_) (fun q => ?_)
    · refine zk_aload_n (pc' := 34) hC rfl ⟨dX5_makeAddress_33, rfl⟩ ?_
      refine zk_getr (pc' := 37) hC fl_X5_41 (by first | decide | assumption | omega) (by first | rfl | assumption) rfl ⟨dX5_makeAddress_34, rfl⟩ ?_
      refine zk_iconst (pc' := 38) (x := nI 0) hC ⟨dX5_makeAddress_37, rfl⟩ zc_iconst_0 ?_
      refine zk_iload_n (pc' := 39) hC rfl ⟨dX5_makeAddress_38, rfl⟩ ?_
      first | refine zk_i2lN (pc' := 40) hC ⟨dX5_makeAddress_39, rfl⟩ (by omega) ?_ | refine zk_i2l (pc' := 40) hC ⟨dX5_makeAddress_39, rfl⟩ ?_
      first | refine zk_lastN (pc' := 41) hC (by first | decide | assumption | omega) (by first | rfl | assumption) (by omega) (by first | decide | omega) ⟨dX5_makeAddress_40, rfl⟩ ?_
      rw [md4_11, md4_u11]
      refine zk_aload_n (pc' := 42) hC rfl ⟨dX5_makeAddress_41, rfl⟩ ?_
      refine zk_getr (pc' := 45) hC fl_X5_41 (by first | decide | assumption | omega) (by first | rfl | assumption) rfl ⟨dX5_makeAddress_42, rfl⟩ ?_
      refine zk_iconst (pc' := 46) (x := nI 1) hC ⟨dX5_makeAddress_45, rfl⟩ zc_iconst_1 ?_
      refine zk_iload_n (pc' := 47) hC rfl ⟨dX5_makeAddress_46, rfl⟩ ?_
      first | refine zk_i2lN (pc' := 48) hC ⟨dX5_makeAddress_47, rfl⟩ (by omega) ?_ | refine zk_i2l (pc' := 48) hC ⟨dX5_makeAddress_47, rfl⟩ ?_
      first | refine zk_lastN (pc' := 49) hC (by first | decide | assumption | omega) (by first | rfl | assumption) (by omega) (by first | decide | omega) ⟨dX5_makeAddress_48, rfl⟩ ?_
      rw [md4_11, md4_u11]
      refine zk_aload_n (pc' := 50) hC rfl ⟨dX5_makeAddress_49, rfl⟩ ?_
      refine zk_getr (pc' := 53) hC fl_X5_41 (by first | decide | assumption | omega) (by first | rfl | assumption) rfl ⟨dX5_makeAddress_50, rfl⟩ ?_
      refine zk_iconst (pc' := 54) (x := nI 2) hC ⟨dX5_makeAddress_53, rfl⟩ zc_iconst_2 ?_
      refine zk_iload_n (pc' := 55) hC rfl ⟨dX5_makeAddress_54, rfl⟩ ?_
      first | refine zk_i2lN (pc' := 56) hC ⟨dX5_makeAddress_55, rfl⟩ (by omega) ?_ | refine zk_i2l (pc' := 56) hC ⟨dX5_makeAddress_55, rfl⟩ ?_
      first | refine zk_lastN (pc' := 57) hC (by first | decide | assumption | omega) (by first | rfl | assumption) (by omega) (by first | decide | omega) ⟨dX5_makeAddress_56, rfl⟩ ?_
      rw [md4_11, md4_u11]
      refine zk_aload_n (pc' := 58) hC rfl ⟨dX5_makeAddress_57, rfl⟩ ?_
      refine zk_getr (pc' := 61) hC fl_X5_41 (by first | decide | assumption | omega) (by first | rfl | assumption) rfl ⟨dX5_makeAddress_58, rfl⟩ ?_
      refine zk_iconst (pc' := 62) (x := nI 3) hC ⟨dX5_makeAddress_61, rfl⟩ zc_iconst_3 ?_
      refine zk_ldc2 (pc' := 65) (x := 4) hC ⟨dX5_makeAddress_62, rfl⟩ kl_X5_212 ?_
      refine zk_aload_n (pc' := 66) hC rfl ⟨dX5_makeAddress_65, rfl⟩ ?_
      first | refine zk_getiN (pc' := 69) hC fl_X5_177 (by first | decide | assumption | omega) (by first | rfl | assumption) rfl (by first | assumption | (rw [zk_u_s]; rfl) | (rw [hI]; rfl)) ⟨dX5_makeAddress_66, rfl⟩ ?_ | refine zk_geti (pc' := 69) hC fl_X5_177 (by first | decide | assumption | omega) (by first | rfl | assumption) rfl ⟨dX5_makeAddress_66, rfl⟩ ?_
      first | refine zk_i2lN (pc' := 70) hC ⟨dX5_makeAddress_69, rfl⟩ (by omega) ?_ | refine zk_i2l (pc' := 70) hC ⟨dX5_makeAddress_69, rfl⟩ ?_
      refine zk_lmul (pc' := 71) hC ⟨dX5_makeAddress_70, rfl⟩ ?_
      refine zk_aload_n (pc' := 72) hC rfl ⟨dX5_makeAddress_71, rfl⟩ ?_
      first | refine zk_getiN (pc' := 75) hC fl_X5_168 (by first | decide | assumption | omega) (by first | rfl | assumption) rfl (by first | assumption | (rw [zk_u_s]; rfl) | (rw [hI]; rfl)) ⟨dX5_makeAddress_72, rfl⟩ ?_ | refine zk_geti (pc' := 75) hC fl_X5_168 (by first | decide | assumption | omega) (by first | rfl | assumption) rfl ⟨dX5_makeAddress_72, rfl⟩ ?_
      first | refine zk_i2lN (pc' := 76) hC ⟨dX5_makeAddress_75, rfl⟩ (by omega) ?_ | refine zk_i2l (pc' := 76) hC ⟨dX5_makeAddress_75, rfl⟩ ?_
      refine zk_lmul (pc' := 77) hC ⟨dX5_makeAddress_76, rfl⟩ ?_
      rw [show (4 : Int64) * lN sc * lN ln = lN (4 * sc * ln) by rw [show (4 : Int64) = lN 4 from rfl, lN_mul, lN_mul]]
      first | refine zk_lastN (pc' := 78) hC (by first | decide | assumption | omega) (by first | rfl | assumption) (by omega) (by first | decide | omega) ⟨dX5_makeAddress_77, rfl⟩ ?_
      rw [md4_11, md4_u11]
      refine zk_aload_n (pc' := 79) hC rfl ⟨dX5_makeAddress_78, rfl⟩ ?_
      refine zk_getr (pc' := 82) hC fl_X5_41 (by first | decide | assumption | omega) (by first | rfl | assumption) rfl ⟨dX5_makeAddress_79, rfl⟩ ?_
      refine zk_iconst (pc' := 83) (x := nI 4) hC ⟨dX5_makeAddress_82, rfl⟩ zc_iconst_4 ?_
      refine zk_aload_n (pc' := 84) hC rfl ⟨dX5_makeAddress_83, rfl⟩ ?_
      first | refine zk_getiN (pc' := 87) hC fl_X5_171 (by first | decide | assumption | omega) (by first | rfl | assumption) rfl (by first | assumption | (rw [zk_u_s]; rfl) | (rw [hI]; rfl)) ⟨dX5_makeAddress_84, rfl⟩ ?_ | refine zk_geti (pc' := 87) hC fl_X5_171 (by first | decide | assumption | omega) (by first | rfl | assumption) rfl ⟨dX5_makeAddress_84, rfl⟩ ?_
      first | refine zk_i2lN (pc' := 88) hC ⟨dX5_makeAddress_87, rfl⟩ (by omega) ?_ | refine zk_i2l (pc' := 88) hC ⟨dX5_makeAddress_87, rfl⟩ ?_
      first | refine zk_lastN (pc' := 89) hC (by first | decide | assumption | omega) (by first | rfl | assumption) (by omega) (by first | decide | omega) ⟨dX5_makeAddress_88, rfl⟩ ?_
      rw [md4_11, md4_u11]
      refine zk_aload_n (pc' := 90) hC rfl ⟨dX5_makeAddress_89, rfl⟩ ?_
      refine zk_getr (pc' := 93) hC fl_X5_41 (by first | decide | assumption | omega) (by first | rfl | assumption) rfl ⟨dX5_makeAddress_90, rfl⟩ ?_
      refine zk_iconst (pc' := 94) (x := nI 5) hC ⟨dX5_makeAddress_93, rfl⟩ zc_iconst_5 ?_
      refine zk_aload_n (pc' := 95) hC rfl ⟨dX5_makeAddress_94, rfl⟩ ?_
      first | refine zk_getiN (pc' := 98) hC fl_X5_165 (by first | decide | assumption | omega) (by first | rfl | assumption) rfl (by first | assumption | (rw [zk_u_s]; rfl) | (rw [hI]; rfl)) ⟨dX5_makeAddress_95, rfl⟩ ?_ | refine zk_geti (pc' := 98) hC fl_X5_165 (by first | decide | assumption | omega) (by first | rfl | assumption) rfl ⟨dX5_makeAddress_95, rfl⟩ ?_
      first | refine zk_i2lN (pc' := 99) hC ⟨dX5_makeAddress_98, rfl⟩ (by omega) ?_ | refine zk_i2l (pc' := 99) hC ⟨dX5_makeAddress_98, rfl⟩ ?_
      first | refine zk_lastN (pc' := 100) hC (by first | decide | assumption | omega) (by first | rfl | assumption) (by omega) (by first | decide | omega) ⟨dX5_makeAddress_99, rfl⟩ ?_
      rw [md4_11, md4_u11]
      refine zk_aload_n (pc' := 101) hC rfl ⟨dX5_makeAddress_100, rfl⟩ ?_
      refine zk_getr (pc' := 104) hC fl_X5_41 (by first | decide | assumption | omega) (by first | rfl | assumption) rfl ⟨dX5_makeAddress_101, rfl⟩ ?_
      refine zk_bipush (pc' := 106) (x := nI 6) hC ⟨dX5_makeAddress_104, rfl⟩ zc_bipush_6 ?_
      refine zk_iload (pc' := 108) hC rfl ⟨dX5_makeAddress_106, rfl⟩ ?_
      first | refine zk_i2lN (pc' := 109) hC ⟨dX5_makeAddress_108, rfl⟩ (by omega) ?_ | refine zk_i2l (pc' := 109) hC ⟨dX5_makeAddress_108, rfl⟩ ?_
      first | refine zk_lastN (pc' := 110) hC (by first | decide | assumption | omega) (by first | rfl | assumption) (by omega) (by first | decide | omega) ⟨dX5_makeAddress_109, rfl⟩ ?_
      rw [md4_11, md4_u11]
      change zk_A 1 X E 110 [some (.ref (zk_ad X 0)), some (.int (nI pa)), some (.int (nI la)), some (.int (nI ta)), some (.int (nI ct)), some (.int (nI 128))] [] I (md_set4 J (fz_fill (J 10) (fun _ => lN 0) 128) (md_af (J 11) pa la ta (4 * sc * ln) ps kd ct) (J 12) (J 13))
      unfold md_ma at hR
      generalize md_af (J 11) pa la ta (4 * sc * ln) ps kd ct = f0 at hR ⊢
      generalize fz_fill (J 10) (fun _ => lN 0) 128 = n0 at hR ⊢
      generalize J 12 = x0 at hR ⊢
      generalize J 13 = a0 at hR ⊢
      refine zk_aload_n (pc' := 111) hC rfl ⟨dX5_makeAddress_110, rfl⟩ ?_
      refine zk_callV0 (pc' := 114) hC ml_X5_214 mi_X5_join (c_X5_join X I _) (by decide) (by first | decide | assumption | omega) (by first | rfl | assumption) rfl rfl rfl (Nat.le_of_ble_eq_true rfl) ⟨dX5_makeAddress_111, rfl⟩ ?_
      rw [md_j_eq, md4_10, md4_11, md4_12, md4_u12]
      generalize md_jj n0 f0 x0 = x1 at hR ⊢
      refine zk_iconst (pc' := 115) (x := nI 0) hC ⟨dX5_makeAddress_114, rfl⟩ zc_iconst_0 ?_
      refine zk_is5 (pc' := 117) hC ⟨dX5_makeAddress_115, rfl⟩ rfl ?_
      refine zk_eqJ (J' := md_set4 J n0 (fz_fill f0 x1 0) x1 a0) (by rw [fz_0]) ?_
      refine zk_up (P := fun k => zk_A 1 X E 117 [some (.ref (zk_ad X 0)), some (.int (nI pa)), some (.int (nI la)), some (.int (nI ta)), some (.int (nI ct)), some (.int (nI k))] [] I (md_set4 J n0 (fz_fill f0 x1 k) x1 a0)) 128 ?_ (fun k hk ih => ?_)
      · skip
        refine zk_iload (pc' := 119) hC rfl ⟨dX5_makeAddress_117, rfl⟩ ?_
        refine zk_sipush (pc' := 122) (x := nI 128) hC ⟨dX5_makeAddress_119, rfl⟩ zc_sipush_128 ?_
        refine zk_icmp_geN (pc' := 125) hC ⟨dX5_makeAddress_122, rfl⟩ 145 (by decide) (by omega) (by omega) (fun q2 => ?_) (fun q2 => ?_)
        · generalize fz_fill f0 x1 128 = f1 at hR ⊢
          refine zk_aload_n (pc' := 146) hC rfl ⟨dX5_makeAddress_145, rfl⟩ ?_
          refine zk_callV0 (pc' := 149) hC ml_X5_214 mi_X5_join (c_X5_join X I _) (by decide) (by first | decide | assumption | omega) (by first | rfl | assumption) rfl rfl rfl (Nat.le_of_ble_eq_true rfl) ⟨dX5_makeAddress_146, rfl⟩ ?_
          rw [md_j_eq, md4_10, md4_11, md4_12, md4_u12]
          generalize md_jj n0 f1 x1 = x2 at hR ⊢
          refine zk_iconst (pc' := 150) (x := nI 0) hC ⟨dX5_makeAddress_149, rfl⟩ zc_iconst_0 ?_
          refine zk_is5 (pc' := 152) hC ⟨dX5_makeAddress_150, rfl⟩ rfl ?_
          refine zk_eqJ (J' := md_set4 J n0 f1 x2 (fz_fill a0 x2 0)) (by rw [fz_0]) ?_
          refine zk_up (P := fun k => zk_A 1 X E 152 [some (.ref (zk_ad X 0)), some (.int (nI pa)), some (.int (nI la)), some (.int (nI ta)), some (.int (nI ct)), some (.int (nI k))] [] I (md_set4 J n0 f1 x2 (fz_fill a0 x2 k))) 128 ?_ (fun k hk ih => ?_)
          · skip
            refine zk_iload (pc' := 154) hC rfl ⟨dX5_makeAddress_152, rfl⟩ ?_
            refine zk_sipush (pc' := 157) (x := nI 128) hC ⟨dX5_makeAddress_154, rfl⟩ zc_sipush_128 ?_
            refine zk_icmp_geN (pc' := 160) hC ⟨dX5_makeAddress_157, rfl⟩ 180 (by decide) (by omega) (by omega) (fun q3 => ?_) (fun q3 => ?_)
            · exact zk_vret (pc' := 181) hC hR rfl rfl rfl ⟨dX5_makeAddress_180, rfl⟩
            · omega
          · skip
            refine zk_iload (pc' := 154) hC rfl ⟨dX5_makeAddress_152, rfl⟩ ?_
            refine zk_sipush (pc' := 157) (x := nI 128) hC ⟨dX5_makeAddress_154, rfl⟩ zc_sipush_128 ?_
            refine zk_icmp_geN (pc' := 160) hC ⟨dX5_makeAddress_157, rfl⟩ 180 (by decide) (by omega) (by omega) (fun q3 => ?_) (fun q3 => ?_)
            · omega
            · refine zk_aload_n (pc' := 161) hC rfl ⟨dX5_makeAddress_160, rfl⟩ ?_
              refine zk_getr (pc' := 164) hC fl_X5_47 (by first | decide | assumption | omega) (by first | rfl | assumption) rfl ⟨dX5_makeAddress_161, rfl⟩ ?_
              refine zk_iload (pc' := 166) hC rfl ⟨dX5_makeAddress_164, rfl⟩ ?_
              refine zk_aload_n (pc' := 167) hC rfl ⟨dX5_makeAddress_166, rfl⟩ ?_
              refine zk_getr (pc' := 170) hC fl_X5_44 (by first | decide | assumption | omega) (by first | rfl | assumption) rfl ⟨dX5_makeAddress_167, rfl⟩ ?_
              refine zk_iload (pc' := 172) hC rfl ⟨dX5_makeAddress_170, rfl⟩ ?_
              first | refine zk_laldN (pc' := 173) hC (by first | decide | assumption | omega) (by first | rfl | assumption) (by omega) (by first | decide | omega) ⟨dX5_makeAddress_172, rfl⟩ ?_ | refine zk_t1N (pc' := 173) hC (by omega) ⟨dX5_makeAddress_172, rfl⟩ ?_
              rw [md4_12]
              first | refine zk_lastN (pc' := 174) hC (by first | decide | assumption | omega) (by first | rfl | assumption) (by omega) (by first | decide | omega) ⟨dX5_makeAddress_173, rfl⟩ ?_
              rw [md4_13, md4_u13, fz_S _ x2 k rfl]
              first | refine zk_in5 (pc' := 177) hC ⟨dX5_makeAddress_174, rfl⟩ ?_ | refine zk_iincG (pc' := 177) hC ⟨dX5_makeAddress_174, rfl⟩ rfl ?_
              refine zk_goto (pc' := 180) hC ⟨dX5_makeAddress_177, rfl⟩ 152 (by decide) ?_
              exact ih
        · omega
      · skip
        refine zk_iload (pc' := 119) hC rfl ⟨dX5_makeAddress_117, rfl⟩ ?_
        refine zk_sipush (pc' := 122) (x := nI 128) hC ⟨dX5_makeAddress_119, rfl⟩ zc_sipush_128 ?_
        refine zk_icmp_geN (pc' := 125) hC ⟨dX5_makeAddress_122, rfl⟩ 145 (by decide) (by omega) (by omega) (fun q2 => ?_) (fun q2 => ?_)
        · omega
        · refine zk_aload_n (pc' := 126) hC rfl ⟨dX5_makeAddress_125, rfl⟩ ?_
          refine zk_getr (pc' := 129) hC fl_X5_41 (by first | decide | assumption | omega) (by first | rfl | assumption) rfl ⟨dX5_makeAddress_126, rfl⟩ ?_
          refine zk_iload (pc' := 131) hC rfl ⟨dX5_makeAddress_129, rfl⟩ ?_
          refine zk_aload_n (pc' := 132) hC rfl ⟨dX5_makeAddress_131, rfl⟩ ?_
          refine zk_getr (pc' := 135) hC fl_X5_44 (by first | decide | assumption | omega) (by first | rfl | assumption) rfl ⟨dX5_makeAddress_132, rfl⟩ ?_
          refine zk_iload (pc' := 137) hC rfl ⟨dX5_makeAddress_135, rfl⟩ ?_
          first | refine zk_laldN (pc' := 138) hC (by first | decide | assumption | omega) (by first | rfl | assumption) (by omega) (by first | decide | omega) ⟨dX5_makeAddress_137, rfl⟩ ?_ | refine zk_t1N (pc' := 138) hC (by omega) ⟨dX5_makeAddress_137, rfl⟩ ?_
          rw [md4_12]
          first | refine zk_lastN (pc' := 139) hC (by first | decide | assumption | omega) (by first | rfl | assumption) (by omega) (by first | decide | omega) ⟨dX5_makeAddress_138, rfl⟩ ?_
          rw [md4_11, md4_u11, fz_S _ x1 k rfl]
          first | refine zk_in5 (pc' := 142) hC ⟨dX5_makeAddress_139, rfl⟩ ?_ | refine zk_iincG (pc' := 142) hC ⟨dX5_makeAddress_139, rfl⟩ rfl ?_
          refine zk_goto (pc' := 145) hC ⟨dX5_makeAddress_142, rfl⟩ 117 (by decide) ?_
          exact ih
    · omega
  · skip
    refine zk_iload (pc' := 5) hC rfl ⟨dX5_makeAddress_3, rfl⟩ ?_
    refine zk_sipush (pc' := 8) (x := nI 128) hC ⟨dX5_makeAddress_5, rfl⟩ zc_sipush_128 ?_
    refine zk_icmp_geN (pc' := 11) hC ⟨dX5_makeAddress_8, rfl⟩ 33 (by decide) (by omega) (by omega) (fun q => ?_) (fun q => ?_)
    · omega
    · refine zk_aload_n (pc' := 12) hC rfl ⟨dX5_makeAddress_11, rfl⟩ ?_
      refine zk_getr (pc' := 15) hC fl_X5_38 (by first | decide | assumption | omega) (by first | rfl | assumption) rfl ⟨dX5_makeAddress_12, rfl⟩ ?_
      refine zk_iload (pc' := 17) hC rfl ⟨dX5_makeAddress_15, rfl⟩ ?_
      refine zk_lconst (pc' := 18) (x := lN 0) hC ⟨dX5_makeAddress_17, rfl⟩ rfl ?_
      first | refine zk_lastN (pc' := 19) hC (by first | decide | assumption | omega) (by first | rfl | assumption) (by omega) (by first | decide | omega) ⟨dX5_makeAddress_18, rfl⟩ ?_
      rw [md4_10, md4_u10, fz_S _ _ k rfl]
      refine zk_aload_n (pc' := 20) hC rfl ⟨dX5_makeAddress_19, rfl⟩ ?_
      refine zk_getr (pc' := 23) hC fl_X5_41 (by first | decide | assumption | omega) (by first | rfl | assumption) rfl ⟨dX5_makeAddress_20, rfl⟩ ?_
      refine zk_iload (pc' := 25) hC rfl ⟨dX5_makeAddress_23, rfl⟩ ?_
      refine zk_lconst (pc' := 26) (x := lN 0) hC ⟨dX5_makeAddress_25, rfl⟩ rfl ?_
      first | refine zk_lastN (pc' := 27) hC (by first | decide | assumption | omega) (by first | rfl | assumption) (by omega) (by first | decide | omega) ⟨dX5_makeAddress_26, rfl⟩ ?_
      rw [md4_11, md4_u11, fz_S _ _ k rfl]
      first | refine zk_in5 (pc' := 30) hC ⟨dX5_makeAddress_27, rfl⟩ ?_ | refine zk_iincG (pc' := 30) hC ⟨dX5_makeAddress_27, rfl⟩ rfl ?_
      refine zk_goto (pc' := 33) hC ⟨dX5_makeAddress_30, rfl⟩ 3 (by decide) ?_
      exact ih

