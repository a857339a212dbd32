/-! JOINER -/
def jz_s (a b : Int64) : Int64 := a + b + 2 * (a &&& 4294967295) * (b &&& 4294967295)
def jz_sum (v : Nat → Int64) (a b : Nat) : Nat → Int64 := vp_updL v a (jz_s (v a) (v b))
def jz_mix (v : Nat → Int64) (a b c d : Nat) : Nat → Int64 := hz_rot (jz_sum (hz_rot (jz_sum (hz_rot (jz_sum (hz_rot (jz_sum v a b) d a 32) c d) b c 24) a b) d a 16) c d) b c 63
def jz_r8 (v : Nat → Int64) : Nat → Nat → Int64
  | 0 => v
  | i + 1 => jz_mix (jz_r8 v i) (zk_four.getD (4 * i) 0) (zk_four.getD (4 * i + 1) 0) (zk_four.getD (4 * i + 2) 0) (zk_four.getD (4 * i + 3) 0)
def jz_in (v z : Nat → Int64) (st wy l : Nat) : Nat → Int64 := fun j => if j < 2 * l then z (st + wy * (j / 2) + j % 2) else v j
theorem jz_in_0 (v z : Nat → Int64) (st wy : Nat) : jz_in v z st wy 0 = v := by funext j; simp [jz_in]
theorem jz_in_S (v z : Nat → Int64) (st wy l : Nat) : vp_updL (vp_updL (jz_in v z st wy l) (2 * l) (z (st + wy * l))) (2 * l + 1) (z (st + wy * l + 1)) = jz_in v z st wy (l + 1) := by
  funext j
  unfold jz_in vp_updL
  by_cases h1 : j = 2 * l + 1
  · subst h1
    rw [if_pos rfl, if_pos (by omega), show (2 * l + 1) / 2 = l by omega, show (2 * l + 1) % 2 = 1 by omega]
  · rw [if_neg h1]
    by_cases h2 : j = 2 * l
    · subst h2
      rw [if_pos rfl, if_pos (by omega), show (2 * l) / 2 = l by omega, show (2 * l) % 2 = 0 by omega, Nat.add_zero]
    · rw [if_neg h2]
      dsimp only
      by_cases h3 : j < 2 * l
      · rw [if_pos h3, if_pos (by omega)]
      · rw [if_neg h3, if_neg (by omega)]
def jz_out (z v : Nat → Int64) (st wy : Nat) : Nat → Nat → Int64
  | 0 => z
  | l + 1 => vp_updL (vp_updL (jz_out z v st wy l) (st + wy * l) (v (2 * l))) (st + wy * l + 1) (v (2 * l + 1))
def jz_st (p : (Nat → Int64) × (Nat → Int64)) (st wy : Nat) : (Nat → Int64) × (Nat → Int64) := (jz_out p.1 (jz_r8 (jz_in p.2 p.1 st wy 8) 8) st wy 8, jz_r8 (jz_in p.2 p.1 st wy 8) 8)
def jz_rows (p : (Nat → Int64) × (Nat → Int64)) : Nat → (Nat → Int64) × (Nat → Int64)
  | 0 => p
  | i + 1 => jz_st (jz_rows p i) (16 * i) 2
def jz_cols (p : (Nat → Int64) × (Nat → Int64)) : Nat → (Nat → Int64) × (Nat → Int64)
  | 0 => p
  | i + 1 => jz_st (jz_cols p i) (2 * i) 16
def jz_set (J : zk_J) (s z v : Nat → Int64) : zk_J := zk_u (zk_u (zk_u J 35 s) 36 z) 37 v
theorem jz_set_self (J : zk_J) : jz_set J (J 35) (J 36) (J 37) = J := by unfold jz_set; rw [zk_u_self, zk_u_self, zk_u_self]
theorem jz_set_s {J : zk_J} {s z v : Nat → Int64} : jz_set J s z v 35 = s := by simp [jz_set, zk_u]
theorem jz_set_z {J : zk_J} {s z v : Nat → Int64} : jz_set J s z v 36 = z := by simp [jz_set, zk_u]
theorem jz_set_v {J : zk_J} {s z v : Nat → Int64} : jz_set J s z v 37 = v := by simp [jz_set, zk_u]
theorem jz_set_o {J : zk_J} {s z v : Nat → Int64} {a : Nat} (h1 : a ≠ 35) (h2 : a ≠ 36) (h3 : a ≠ 37) : jz_set J s z v a = J a := by simp [jz_set, zk_u, h1, h2, h3]
theorem jz_u35 {J : zk_J} {s z v x : Nat → Int64} : zk_u (jz_set J s z v) 35 x = jz_set J x z v := by
  funext a
  by_cases e : a = 35
  · subst e; simp [jz_set, zk_u]
  · simp [jz_set, zk_u, e]
theorem jz_u36 {J : zk_J} {s z v x : Nat → Int64} : zk_u (jz_set J s z v) 36 x = jz_set J s x v := by
  funext a
  by_cases e : a = 36
  · subst e; simp [jz_set, zk_u]
  · simp [jz_set, zk_u, e]
theorem jz_u37 {J : zk_J} {s z v x : Nat → Int64} : zk_u (jz_set J s z v) 37 x = jz_set J s z x := by
  funext a
  by_cases e : a = 37
  · subst e; simp [jz_set, zk_u]
  · simp [jz_set, zk_u, e]
/-- JOIN, with what the rows were -/
def jz_x (J : zk_J) (kx ky : Nat) : Nat → Int64 := fun k => J kx k ^^^ J ky k
def jz_zv (J : zk_J) (kx ky : Nat) : (Nat → Int64) × (Nat → Int64) := jz_cols (jz_rows (fz_fill (J 36) (jz_x J kx ky) 128, J 37) 8) 8
def jz_r (J : zk_J) (kx ky ki b : Nat) : Nat → Int64 := fun k => (if b = 0 then lN 0 else J ki k) ^^^ (jz_zv J kx ky).1 k ^^^ fz_fill (J 35) (jz_x J kx ky) 128 k
def jz_join (J : zk_J) (kx ky ki b : Nat) : zk_J := zk_u (jz_set J (fz_fill (J 35) (jz_x J kx ky) 128) (jz_zv J kx ky).1 (jz_zv J kx ky).2) ki (fz_fill (J ki) (jz_r J kx ky ki b) 128)

set_option maxHeartbeats 1000000 in
set_option maxRecDepth 100000 in
theorem c_X3_sumHard (X : zk_X) (I : zk_I) (J : zk_J) (x y : Int64) : zk_M 0 X yX3_sumHard cX3_sumHard 4 ((some .long)) (0, 0) [.long x, .long y] I J (some (.long (jz_s x y))) I J := by
  refine zk_M.intro (by decide) (lv := [some (.long x), none, some (.long y), none]) rfl rfl (fun E hC hR => ?_)
  refine zk_lload_n (pc' := 1) hC rfl ⟨dX3_sumHard_0, rfl⟩ ?_
  refine zk_lload_n (pc' := 2) hC rfl ⟨dX3_sumHard_1, rfl⟩ ?_
  refine zk_ladd (pc' := 3) hC ⟨dX3_sumHard_2, rfl⟩ ?_
  refine zk_ldc2 (pc' := 6) (x := 2) hC ⟨dX3_sumHard_3, rfl⟩ kl_X3_41 ?_
  refine zk_lload_n (pc' := 7) hC rfl ⟨dX3_sumHard_6, rfl⟩ ?_
  refine zk_ldc2 (pc' := 10) (x := 4294967295) hC ⟨dX3_sumHard_7, rfl⟩ kl_X3_43 ?_
  refine zk_land (pc' := 11) hC ⟨dX3_sumHard_10, rfl⟩ ?_
  refine zk_lmul (pc' := 12) hC ⟨dX3_sumHard_11, rfl⟩ ?_
  refine zk_lload_n (pc' := 13) hC rfl ⟨dX3_sumHard_12, rfl⟩ ?_
  refine zk_ldc2 (pc' := 16) (x := 4294967295) hC ⟨dX3_sumHard_13, rfl⟩ kl_X3_43 ?_
  refine zk_land (pc' := 17) hC ⟨dX3_sumHard_16, rfl⟩ ?_
  refine zk_lmul (pc' := 18) hC ⟨dX3_sumHard_17, rfl⟩ ?_
  refine zk_ladd (pc' := 19) hC ⟨dX3_sumHard_18, rfl⟩ ?_
  exact zk_lret (pc' := 20) hC hR rfl rfl rfl ⟨dX3_sumHard_19, rfl⟩

set_option maxHeartbeats 1000000 in
set_option maxRecDepth 100000 in
theorem c_X3_mixHard (X : zk_X) (I : zk_I) (J : zk_J) {p : Nat} (hp : p + 3 < 32) : zk_M 0 X yX3_mixHard cX3_mixHard 6 none (1, 23) [.ref (zk_ad X 34), .int (nI p)] I J none I (zk_u J 37 (jz_mix (J 37) (zk_four.getD p 0) (zk_four.getD (p + 1) 0) (zk_four.getD (p + 2) 0) (zk_four.getD (p + 3) 0))) := by
  refine zk_M.intro (by decide) (lv := [some (.ref (zk_ad X 34)), some (.int (nI p)), none, none, none, none]) rfl rfl (fun E hC hR => ?_)
  have ha := zk_four_lt p (by omega)
  have hb := zk_four_lt (p + 1) (by omega)
  have hc := zk_four_lt (p + 2) (by omega)
  have hd := zk_four_lt (p + 3) (by omega)
  refine zk_eqJ (J' := zk_u J 37 (J 37)) (zk_u_self J 37).symm ?_
  refine zk_gets (pc' := 3) (j := 0) hC rfl ls_X3_29 ⟨dX3_mixHard_0, rfl⟩ ?_
  refine zk_iload_n (pc' := 4) hC rfl ⟨dX3_mixHard_3, rfl⟩ ?_
  first | refine zk_ialdU (pc' := 5) hC (by first | decide | assumption | omega) (by first | rfl | assumption) (by omega) (by first | decide | omega) ⟨dX3_mixHard_4, rfl⟩ ?_ | refine zk_ialdN (pc' := 5) hC (by first | decide | assumption | omega) (by first | rfl | assumption) (by omega) (by first | decide | omega) ⟨dX3_mixHard_4, rfl⟩ ?_ | refine zk_t0N (pc' := 5) hC (by omega) ⟨dX3_mixHard_4, rfl⟩ ?_ | refine zk_t2N (pc' := 5) hC (by omega) ⟨dX3_mixHard_4, rfl⟩ ?_
  refine zk_is2 (pc' := 6) hC ⟨dX3_mixHard_5, rfl⟩ rfl ?_
  refine zk_gets (pc' := 9) (j := 0) hC rfl ls_X3_29 ⟨dX3_mixHard_6, rfl⟩ ?_
  refine zk_iload_n (pc' := 10) hC rfl ⟨dX3_mixHard_9, rfl⟩ ?_
  refine zk_iconst (pc' := 11) (x := nI 1) hC ⟨dX3_mixHard_10, rfl⟩ zc_iconst_1 ?_
  first | refine zk_iaddN (pc' := 12) hC ⟨dX3_mixHard_11, rfl⟩ ?_ | refine zk_iadd (pc' := 12) hC ⟨dX3_mixHard_11, rfl⟩ ?_
  first | refine zk_ialdU (pc' := 13) hC (by first | decide | assumption | omega) (by first | rfl | assumption) (by omega) (by first | decide | omega) ⟨dX3_mixHard_12, rfl⟩ ?_ | refine zk_ialdN (pc' := 13) hC (by first | decide | assumption | omega) (by first | rfl | assumption) (by omega) (by first | decide | omega) ⟨dX3_mixHard_12, rfl⟩ ?_ | refine zk_t0N (pc' := 13) hC (by omega) ⟨dX3_mixHard_12, rfl⟩ ?_ | refine zk_t2N (pc' := 13) hC (by omega) ⟨dX3_mixHard_12, rfl⟩ ?_
  refine zk_is3 (pc' := 14) hC ⟨dX3_mixHard_13, rfl⟩ rfl ?_
  refine zk_gets (pc' := 17) (j := 0) hC rfl ls_X3_29 ⟨dX3_mixHard_14, rfl⟩ ?_
  refine zk_iload_n (pc' := 18) hC rfl ⟨dX3_mixHard_17, rfl⟩ ?_
  refine zk_iconst (pc' := 19) (x := nI 2) hC ⟨dX3_mixHard_18, rfl⟩ zc_iconst_2 ?_
  first | refine zk_iaddN (pc' := 20) hC ⟨dX3_mixHard_19, rfl⟩ ?_ | refine zk_iadd (pc' := 20) hC ⟨dX3_mixHard_19, rfl⟩ ?_
  first | refine zk_ialdU (pc' := 21) hC (by first | decide | assumption | omega) (by first | rfl | assumption) (by omega) (by first | decide | omega) ⟨dX3_mixHard_20, rfl⟩ ?_ | refine zk_ialdN (pc' := 21) hC (by first | decide | assumption | omega) (by first | rfl | assumption) (by omega) (by first | decide | omega) ⟨dX3_mixHard_20, rfl⟩ ?_ | refine zk_t0N (pc' := 21) hC (by omega) ⟨dX3_mixHard_20, rfl⟩ ?_ | refine zk_t2N (pc' := 21) hC (by omega) ⟨dX3_mixHard_20, rfl⟩ ?_
  refine zk_is4 (pc' := 23) hC ⟨dX3_mixHard_21, rfl⟩ rfl ?_
  refine zk_gets (pc' := 26) (j := 0) hC rfl ls_X3_29 ⟨dX3_mixHard_23, rfl⟩ ?_
  refine zk_iload_n (pc' := 27) hC rfl ⟨dX3_mixHard_26, rfl⟩ ?_
  refine zk_iconst (pc' := 28) (x := nI 3) hC ⟨dX3_mixHard_27, rfl⟩ zc_iconst_3 ?_
  first | refine zk_iaddN (pc' := 29) hC ⟨dX3_mixHard_28, rfl⟩ ?_ | refine zk_iadd (pc' := 29) hC ⟨dX3_mixHard_28, rfl⟩ ?_
  first | refine zk_ialdU (pc' := 30) hC (by first | decide | assumption | omega) (by first | rfl | assumption) (by omega) (by first | decide | omega) ⟨dX3_mixHard_29, rfl⟩ ?_ | refine zk_ialdN (pc' := 30) hC (by first | decide | assumption | omega) (by first | rfl | assumption) (by omega) (by first | decide | omega) ⟨dX3_mixHard_29, rfl⟩ ?_ | refine zk_t0N (pc' := 30) hC (by omega) ⟨dX3_mixHard_29, rfl⟩ ?_ | refine zk_t2N (pc' := 30) hC (by omega) ⟨dX3_mixHard_29, rfl⟩ ?_
  refine zk_is5 (pc' := 32) hC ⟨dX3_mixHard_30, rfl⟩ rfl ?_
  generalize zk_four.getD p 0 = a at ha hR ⊢
  generalize zk_four.getD (p + 1) 0 = b at hb hR ⊢
  generalize zk_four.getD (p + 2) 0 = c at hc hR ⊢
  generalize zk_four.getD (p + 3) 0 = d at hd hR ⊢
  refine zk_aload_n (pc' := 33) hC rfl ⟨dX3_mixHard_32, rfl⟩ ?_
  refine zk_getr (pc' := 36) hC fl_X3_18 (by first | decide | assumption | omega) (by first | rfl | assumption) rfl ⟨dX3_mixHard_33, rfl⟩ ?_
  refine zk_iload_n (pc' := 37) hC rfl ⟨dX3_mixHard_36, rfl⟩ ?_
  refine zk_aload_n (pc' := 38) hC rfl ⟨dX3_mixHard_37, rfl⟩ ?_
  refine zk_getr (pc' := 41) hC fl_X3_18 (by first | decide | assumption | omega) (by first | rfl | assumption) rfl ⟨dX3_mixHard_38, rfl⟩ ?_
  refine zk_iload_n (pc' := 42) hC rfl ⟨dX3_mixHard_41, rfl⟩ ?_
  first | refine zk_laldU (pc' := 43) hC (by first | decide | assumption | omega) (by first | rfl | assumption) (by omega) (by first | decide | omega) ⟨dX3_mixHard_42, rfl⟩ ?_ | refine zk_laldN (pc' := 43) hC (by first | decide | assumption | omega) (by first | rfl | assumption) (by omega) (by first | decide | omega) ⟨dX3_mixHard_42, rfl⟩ ?_ | refine zk_t1N (pc' := 43) hC (by omega) ⟨dX3_mixHard_42, rfl⟩ ?_
  refine zk_aload_n (pc' := 44) hC rfl ⟨dX3_mixHard_43, rfl⟩ ?_
  refine zk_getr (pc' := 47) hC fl_X3_18 (by first | decide | assumption | omega) (by first | rfl | assumption) rfl ⟨dX3_mixHard_44, rfl⟩ ?_
  refine zk_iload_n (pc' := 48) hC rfl ⟨dX3_mixHard_47, rfl⟩ ?_
  first | refine zk_laldU (pc' := 49) hC (by first | decide | assumption | omega) (by first | rfl | assumption) (by omega) (by first | decide | omega) ⟨dX3_mixHard_48, rfl⟩ ?_ | refine zk_laldN (pc' := 49) hC (by first | decide | assumption | omega) (by first | rfl | assumption) (by omega) (by first | decide | omega) ⟨dX3_mixHard_48, rfl⟩ ?_ | refine zk_t1N (pc' := 49) hC (by omega) ⟨dX3_mixHard_48, rfl⟩ ?_
  refine zk_callS1 (pc' := 52) hC ml_X3_33 ms_X3_sumHard (c_X3_sumHard X I _ _ _) (by decide) rfl rfl (Nat.le_of_ble_eq_true rfl) ⟨dX3_mixHard_49, rfl⟩ ?_
  first | refine zk_lastU (pc' := 53) hC (by first | decide | assumption | omega) (by first | rfl | assumption) (by omega) (by first | decide | omega) ⟨dX3_mixHard_52, rfl⟩ ?_ | refine zk_lastN (pc' := 53) hC (by first | decide | assumption | omega) (by first | rfl | assumption) (by omega) (by first | decide | omega) ⟨dX3_mixHard_52, rfl⟩ ?_
  refine zk_eqJ (J' := zk_u J 37 (jz_sum (J 37) a b)) rfl ?_
  refine zk_aload_n (pc' := 54) hC rfl ⟨dX3_mixHard_53, rfl⟩ ?_
  refine zk_getr (pc' := 57) hC fl_X3_18 (by first | decide | assumption | omega) (by first | rfl | assumption) rfl ⟨dX3_mixHard_54, rfl⟩ ?_
  refine zk_iload (pc' := 59) hC rfl ⟨dX3_mixHard_57, rfl⟩ ?_
  refine zk_aload_n (pc' := 60) hC rfl ⟨dX3_mixHard_59, rfl⟩ ?_
  refine zk_getr (pc' := 63) hC fl_X3_18 (by first | decide | assumption | omega) (by first | rfl | assumption) rfl ⟨dX3_mixHard_60, rfl⟩ ?_
  refine zk_iload (pc' := 65) hC rfl ⟨dX3_mixHard_63, rfl⟩ ?_
  first | refine zk_laldU (pc' := 66) hC (by first | decide | assumption | omega) (by first | rfl | assumption) (by omega) (by first | decide | omega) ⟨dX3_mixHard_65, rfl⟩ ?_ | refine zk_laldN (pc' := 66) hC (by first | decide | assumption | omega) (by first | rfl | assumption) (by omega) (by first | decide | omega) ⟨dX3_mixHard_65, rfl⟩ ?_ | refine zk_t1N (pc' := 66) hC (by omega) ⟨dX3_mixHard_65, rfl⟩ ?_
  refine zk_aload_n (pc' := 67) hC rfl ⟨dX3_mixHard_66, rfl⟩ ?_
  refine zk_getr (pc' := 70) hC fl_X3_18 (by first | decide | assumption | omega) (by first | rfl | assumption) rfl ⟨dX3_mixHard_67, rfl⟩ ?_
  refine zk_iload_n (pc' := 71) hC rfl ⟨dX3_mixHard_70, rfl⟩ ?_
  first | refine zk_laldU (pc' := 72) hC (by first | decide | assumption | omega) (by first | rfl | assumption) (by omega) (by first | decide | omega) ⟨dX3_mixHard_71, rfl⟩ ?_ | refine zk_laldN (pc' := 72) hC (by first | decide | assumption | omega) (by first | rfl | assumption) (by omega) (by first | decide | omega) ⟨dX3_mixHard_71, rfl⟩ ?_ | refine zk_t1N (pc' := 72) hC (by omega) ⟨dX3_mixHard_71, rfl⟩ ?_
  refine zk_lxor (pc' := 73) hC ⟨dX3_mixHard_72, rfl⟩ ?_
  refine zk_bipush (pc' := 75) (x := nI 32) hC ⟨dX3_mixHard_73, rfl⟩ zc_bipush_32 ?_
  refine zk_callS1 (pc' := 78) hC ml_X3_37 ms_X4_turnRight (c_X4_turnRight X I _ _ (k := 32) (by decide)) (by decide) rfl rfl (Nat.le_of_ble_eq_true rfl) ⟨dX3_mixHard_75, rfl⟩ ?_
  first | refine zk_lastU (pc' := 79) hC (by first | decide | assumption | omega) (by first | rfl | assumption) (by omega) (by first | decide | omega) ⟨dX3_mixHard_78, rfl⟩ ?_ | refine zk_lastN (pc' := 79) hC (by first | decide | assumption | omega) (by first | rfl | assumption) (by omega) (by first | decide | omega) ⟨dX3_mixHard_78, rfl⟩ ?_
  refine zk_eqJ (J' := zk_u J 37 (hz_rot (jz_sum (J 37) a b) d a 32)) rfl ?_
  refine zk_aload_n (pc' := 80) hC rfl ⟨dX3_mixHard_79, rfl⟩ ?_
  refine zk_getr (pc' := 83) hC fl_X3_18 (by first | decide | assumption | omega) (by first | rfl | assumption) rfl ⟨dX3_mixHard_80, rfl⟩ ?_
  refine zk_iload (pc' := 85) hC rfl ⟨dX3_mixHard_83, rfl⟩ ?_
  refine zk_aload_n (pc' := 86) hC rfl ⟨dX3_mixHard_85, rfl⟩ ?_
  refine zk_getr (pc' := 89) hC fl_X3_18 (by first | decide | assumption | omega) (by first | rfl | assumption) rfl ⟨dX3_mixHard_86, rfl⟩ ?_
  refine zk_iload (pc' := 91) hC rfl ⟨dX3_mixHard_89, rfl⟩ ?_
  first | refine zk_laldU (pc' := 92) hC (by first | decide | assumption | omega) (by first | rfl | assumption) (by omega) (by first | decide | omega) ⟨dX3_mixHard_91, rfl⟩ ?_ | refine zk_laldN (pc' := 92) hC (by first | decide | assumption | omega) (by first | rfl | assumption) (by omega) (by first | decide | omega) ⟨dX3_mixHard_91, rfl⟩ ?_ | refine zk_t1N (pc' := 92) hC (by omega) ⟨dX3_mixHard_91, rfl⟩ ?_
  refine zk_aload_n (pc' := 93) hC rfl ⟨dX3_mixHard_92, rfl⟩ ?_
  refine zk_getr (pc' := 96) hC fl_X3_18 (by first | decide | assumption | omega) (by first | rfl | assumption) rfl ⟨dX3_mixHard_93, rfl⟩ ?_
  refine zk_iload (pc' := 98) hC rfl ⟨dX3_mixHard_96, rfl⟩ ?_
  first | refine zk_laldU (pc' := 99) hC (by first | decide | assumption | omega) (by first | rfl | assumption) (by omega) (by first | decide | omega) ⟨dX3_mixHard_98, rfl⟩ ?_ | refine zk_laldN (pc' := 99) hC (by first | decide | assumption | omega) (by first | rfl | assumption) (by omega) (by first | decide | omega) ⟨dX3_mixHard_98, rfl⟩ ?_ | refine zk_t1N (pc' := 99) hC (by omega) ⟨dX3_mixHard_98, rfl⟩ ?_
  refine zk_callS1 (pc' := 102) hC ml_X3_33 ms_X3_sumHard (c_X3_sumHard X I _ _ _) (by decide) rfl rfl (Nat.le_of_ble_eq_true rfl) ⟨dX3_mixHard_99, rfl⟩ ?_
  first | refine zk_lastU (pc' := 103) hC (by first | decide | assumption | omega) (by first | rfl | assumption) (by omega) (by first | decide | omega) ⟨dX3_mixHard_102, rfl⟩ ?_ | refine zk_lastN (pc' := 103) hC (by first | decide | assumption | omega) (by first | rfl | assumption) (by omega) (by first | decide | omega) ⟨dX3_mixHard_102, rfl⟩ ?_
  refine zk_eqJ (J' := zk_u J 37 (jz_sum (hz_rot (jz_sum (J 37) a b) d a 32) c d)) rfl ?_
  refine zk_aload_n (pc' := 104) hC rfl ⟨dX3_mixHard_103, rfl⟩ ?_
  refine zk_getr (pc' := 107) hC fl_X3_18 (by first | decide | assumption | omega) (by first | rfl | assumption) rfl ⟨dX3_mixHard_104, rfl⟩ ?_
  refine zk_iload_n (pc' := 108) hC rfl ⟨dX3_mixHard_107, rfl⟩ ?_
  refine zk_aload_n (pc' := 109) hC rfl ⟨dX3_mixHard_108, rfl⟩ ?_
  refine zk_getr (pc' := 112) hC fl_X3_18 (by first | decide | assumption | omega) (by first | rfl | assumption) rfl ⟨dX3_mixHard_109, rfl⟩ ?_
  refine zk_iload_n (pc' := 113) hC rfl ⟨dX3_mixHard_112, rfl⟩ ?_
  first | refine zk_laldU (pc' := 114) hC (by first | decide | assumption | omega) (by first | rfl | assumption) (by omega) (by first | decide | omega) ⟨dX3_mixHard_113, rfl⟩ ?_ | refine zk_laldN (pc' := 114) hC (by first | decide | assumption | omega) (by first | rfl | assumption) (by omega) (by first | decide | omega) ⟨dX3_mixHard_113, rfl⟩ ?_ | refine zk_t1N (pc' := 114) hC (by omega) ⟨dX3_mixHard_113, rfl⟩ ?_
  refine zk_aload_n (pc' := 115) hC rfl ⟨dX3_mixHard_114, rfl⟩ ?_
  refine zk_getr (pc' := 118) hC fl_X3_18 (by first | decide | assumption | omega) (by first | rfl | assumption) rfl ⟨dX3_mixHard_115, rfl⟩ ?_
  refine zk_iload (pc' := 120) hC rfl ⟨dX3_mixHard_118, rfl⟩ ?_
  first | refine zk_laldU (pc' := 121) hC (by first | decide | assumption | omega) (by first | rfl | assumption) (by omega) (by first | decide | omega) ⟨dX3_mixHard_120, rfl⟩ ?_ | refine zk_laldN (pc' := 121) hC (by first | decide | assumption | omega) (by first | rfl | assumption) (by omega) (by first | decide | omega) ⟨dX3_mixHard_120, rfl⟩ ?_ | refine zk_t1N (pc' := 121) hC (by omega) ⟨dX3_mixHard_120, rfl⟩ ?_
  refine zk_lxor (pc' := 122) hC ⟨dX3_mixHard_121, rfl⟩ ?_
  refine zk_bipush (pc' := 124) (x := nI 24) hC ⟨dX3_mixHard_122, rfl⟩ zc_bipush_24 ?_
  refine zk_callS1 (pc' := 127) hC ml_X3_37 ms_X4_turnRight (c_X4_turnRight X I _ _ (k := 24) (by decide)) (by decide) rfl rfl (Nat.le_of_ble_eq_true rfl) ⟨dX3_mixHard_124, rfl⟩ ?_
  first | refine zk_lastU (pc' := 128) hC (by first | decide | assumption | omega) (by first | rfl | assumption) (by omega) (by first | decide | omega) ⟨dX3_mixHard_127, rfl⟩ ?_ | refine zk_lastN (pc' := 128) hC (by first | decide | assumption | omega) (by first | rfl | assumption) (by omega) (by first | decide | omega) ⟨dX3_mixHard_127, rfl⟩ ?_
  refine zk_eqJ (J' := zk_u J 37 (hz_rot (jz_sum (hz_rot (jz_sum (J 37) a b) d a 32) c d) b c 24)) rfl ?_
  refine zk_aload_n (pc' := 129) hC rfl ⟨dX3_mixHard_128, rfl⟩ ?_
  refine zk_getr (pc' := 132) hC fl_X3_18 (by first | decide | assumption | omega) (by first | rfl | assumption) rfl ⟨dX3_mixHard_129, rfl⟩ ?_
  refine zk_iload_n (pc' := 133) hC rfl ⟨dX3_mixHard_132, rfl⟩ ?_
  refine zk_aload_n (pc' := 134) hC rfl ⟨dX3_mixHard_133, rfl⟩ ?_
  refine zk_getr (pc' := 137) hC fl_X3_18 (by first | decide | assumption | omega) (by first | rfl | assumption) rfl ⟨dX3_mixHard_134, rfl⟩ ?_
  refine zk_iload_n (pc' := 138) hC rfl ⟨dX3_mixHard_137, rfl⟩ ?_
  first | refine zk_laldU (pc' := 139) hC (by first | decide | assumption | omega) (by first | rfl | assumption) (by omega) (by first | decide | omega) ⟨dX3_mixHard_138, rfl⟩ ?_ | refine zk_laldN (pc' := 139) hC (by first | decide | assumption | omega) (by first | rfl | assumption) (by omega) (by first | decide | omega) ⟨dX3_mixHard_138, rfl⟩ ?_ | refine zk_t1N (pc' := 139) hC (by omega) ⟨dX3_mixHard_138, rfl⟩ ?_
  refine zk_aload_n (pc' := 140) hC rfl ⟨dX3_mixHard_139, rfl⟩ ?_
  refine zk_getr (pc' := 143) hC fl_X3_18 (by first | decide | assumption | omega) (by first | rfl | assumption) rfl ⟨dX3_mixHard_140, rfl⟩ ?_
  refine zk_iload_n (pc' := 144) hC rfl ⟨dX3_mixHard_143, rfl⟩ ?_
  first | refine zk_laldU (pc' := 145) hC (by first | decide | assumption | omega) (by first | rfl | assumption) (by omega) (by first | decide | omega) ⟨dX3_mixHard_144, rfl⟩ ?_ | refine zk_laldN (pc' := 145) hC (by first | decide | assumption | omega) (by first | rfl | assumption) (by omega) (by first | decide | omega) ⟨dX3_mixHard_144, rfl⟩ ?_ | refine zk_t1N (pc' := 145) hC (by omega) ⟨dX3_mixHard_144, rfl⟩ ?_
  refine zk_callS1 (pc' := 148) hC ml_X3_33 ms_X3_sumHard (c_X3_sumHard X I _ _ _) (by decide) rfl rfl (Nat.le_of_ble_eq_true rfl) ⟨dX3_mixHard_145, rfl⟩ ?_
  first | refine zk_lastU (pc' := 149) hC (by first | decide | assumption | omega) (by first | rfl | assumption) (by omega) (by first | decide | omega) ⟨dX3_mixHard_148, rfl⟩ ?_ | refine zk_lastN (pc' := 149) hC (by first | decide | assumption | omega) (by first | rfl | assumption) (by omega) (by first | decide | omega) ⟨dX3_mixHard_148, rfl⟩ ?_
  refine zk_eqJ (J' := zk_u J 37 (jz_sum (hz_rot (jz_sum (hz_rot (jz_sum (J 37) a b) d a 32) c d) b c 24) a b)) rfl ?_
  refine zk_aload_n (pc' := 150) hC rfl ⟨dX3_mixHard_149, rfl⟩ ?_
  refine zk_getr (pc' := 153) hC fl_X3_18 (by first | decide | assumption | omega) (by first | rfl | assumption) rfl ⟨dX3_mixHard_150, rfl⟩ ?_
  refine zk_iload (pc' := 155) hC rfl ⟨dX3_mixHard_153, rfl⟩ ?_
  refine zk_aload_n (pc' := 156) hC rfl ⟨dX3_mixHard_155, rfl⟩ ?_
  refine zk_getr (pc' := 159) hC fl_X3_18 (by first | decide | assumption | omega) (by first | rfl | assumption) rfl ⟨dX3_mixHard_156, rfl⟩ ?_
  refine zk_iload (pc' := 161) hC rfl ⟨dX3_mixHard_159, rfl⟩ ?_
  first | refine zk_laldU (pc' := 162) hC (by first | decide | assumption | omega) (by first | rfl | assumption) (by omega) (by first | decide | omega) ⟨dX3_mixHard_161, rfl⟩ ?_ | refine zk_laldN (pc' := 162) hC (by first | decide | assumption | omega) (by first | rfl | assumption) (by omega) (by first | decide | omega) ⟨dX3_mixHard_161, rfl⟩ ?_ | refine zk_t1N (pc' := 162) hC (by omega) ⟨dX3_mixHard_161, rfl⟩ ?_
  refine zk_aload_n (pc' := 163) hC rfl ⟨dX3_mixHard_162, rfl⟩ ?_
  refine zk_getr (pc' := 166) hC fl_X3_18 (by first | decide | assumption | omega) (by first | rfl | assumption) rfl ⟨dX3_mixHard_163, rfl⟩ ?_
  refine zk_iload_n (pc' := 167) hC rfl ⟨dX3_mixHard_166, rfl⟩ ?_
  first | refine zk_laldU (pc' := 168) hC (by first | decide | assumption | omega) (by first | rfl | assumption) (by omega) (by first | decide | omega) ⟨dX3_mixHard_167, rfl⟩ ?_ | refine zk_laldN (pc' := 168) hC (by first | decide | assumption | omega) (by first | rfl | assumption) (by omega) (by first | decide | omega) ⟨dX3_mixHard_167, rfl⟩ ?_ | refine zk_t1N (pc' := 168) hC (by omega) ⟨dX3_mixHard_167, rfl⟩ ?_
  refine zk_lxor (pc' := 169) hC ⟨dX3_mixHard_168, rfl⟩ ?_
  refine zk_bipush (pc' := 171) (x := nI 16) hC ⟨dX3_mixHard_169, rfl⟩ zc_bipush_16 ?_
  refine zk_callS1 (pc' := 174) hC ml_X3_37 ms_X4_turnRight (c_X4_turnRight X I _ _ (k := 16) (by decide)) (by decide) rfl rfl (Nat.le_of_ble_eq_true rfl) ⟨dX3_mixHard_171, rfl⟩ ?_
  first | refine zk_lastU (pc' := 175) hC (by first | decide | assumption | omega) (by first | rfl | assumption) (by omega) (by first | decide | omega) ⟨dX3_mixHard_174, rfl⟩ ?_ | refine zk_lastN (pc' := 175) hC (by first | decide | assumption | omega) (by first | rfl | assumption) (by omega) (by first | decide | omega) ⟨dX3_mixHard_174, rfl⟩ ?_
  refine zk_eqJ (J' := zk_u J 37 (hz_rot (jz_sum (hz_rot (jz_sum (hz_rot (jz_sum (J 37) a b) d a 32) c d) b c 24) a b) d a 16)) rfl ?_
  refine zk_aload_n (pc' := 176) hC rfl ⟨dX3_mixHard_175, rfl⟩ ?_
  refine zk_getr (pc' := 179) hC fl_X3_18 (by first | decide | assumption | omega) (by first | rfl | assumption) rfl ⟨dX3_mixHard_176, rfl⟩ ?_
  refine zk_iload (pc' := 181) hC rfl ⟨dX3_mixHard_179, rfl⟩ ?_
  refine zk_aload_n (pc' := 182) hC rfl ⟨dX3_mixHard_181, rfl⟩ ?_
  refine zk_getr (pc' := 185) hC fl_X3_18 (by first | decide | assumption | omega) (by first | rfl | assumption) rfl ⟨dX3_mixHard_182, rfl⟩ ?_
  refine zk_iload (pc' := 187) hC rfl ⟨dX3_mixHard_185, rfl⟩ ?_
  first | refine zk_laldU (pc' := 188) hC (by first | decide | assumption | omega) (by first | rfl | assumption) (by omega) (by first | decide | omega) ⟨dX3_mixHard_187, rfl⟩ ?_ | refine zk_laldN (pc' := 188) hC (by first | decide | assumption | omega) (by first | rfl | assumption) (by omega) (by first | decide | omega) ⟨dX3_mixHard_187, rfl⟩ ?_ | refine zk_t1N (pc' := 188) hC (by omega) ⟨dX3_mixHard_187, rfl⟩ ?_
  refine zk_aload_n (pc' := 189) hC rfl ⟨dX3_mixHard_188, rfl⟩ ?_
  refine zk_getr (pc' := 192) hC fl_X3_18 (by first | decide | assumption | omega) (by first | rfl | assumption) rfl ⟨dX3_mixHard_189, rfl⟩ ?_
  refine zk_iload (pc' := 194) hC rfl ⟨dX3_mixHard_192, rfl⟩ ?_
  first | refine zk_laldU (pc' := 195) hC (by first | decide | assumption | omega) (by first | rfl | assumption) (by omega) (by first | decide | omega) ⟨dX3_mixHard_194, rfl⟩ ?_ | refine zk_laldN (pc' := 195) hC (by first | decide | assumption | omega) (by first | rfl | assumption) (by omega) (by first | decide | omega) ⟨dX3_mixHard_194, rfl⟩ ?_ | refine zk_t1N (pc' := 195) hC (by omega) ⟨dX3_mixHard_194, rfl⟩ ?_
  refine zk_callS1 (pc' := 198) hC ml_X3_33 ms_X3_sumHard (c_X3_sumHard X I _ _ _) (by decide) rfl rfl (Nat.le_of_ble_eq_true rfl) ⟨dX3_mixHard_195, rfl⟩ ?_
  first | refine zk_lastU (pc' := 199) hC (by first | decide | assumption | omega) (by first | rfl | assumption) (by omega) (by first | decide | omega) ⟨dX3_mixHard_198, rfl⟩ ?_ | refine zk_lastN (pc' := 199) hC (by first | decide | assumption | omega) (by first | rfl | assumption) (by omega) (by first | decide | omega) ⟨dX3_mixHard_198, rfl⟩ ?_
  refine zk_eqJ (J' := zk_u J 37 (jz_sum (hz_rot (jz_sum (hz_rot (jz_sum (hz_rot (jz_sum (J 37) a b) d a 32) c d) b c 24) a b) d a 16) c d)) rfl ?_
  refine zk_aload_n (pc' := 200) hC rfl ⟨dX3_mixHard_199, rfl⟩ ?_
  refine zk_getr (pc' := 203) hC fl_X3_18 (by first | decide | assumption | omega) (by first | rfl | assumption) rfl ⟨dX3_mixHard_200, rfl⟩ ?_
  refine zk_iload_n (pc' := 204) hC rfl ⟨dX3_mixHard_203, rfl⟩ ?_
  refine zk_aload_n (pc' := 205) hC rfl ⟨dX3_mixHard_204, rfl⟩ ?_
  refine zk_getr (pc' := 208) hC fl_X3_18 (by first | decide | assumption | omega) (by first | rfl | assumption) rfl ⟨dX3_mixHard_205, rfl⟩ ?_
  refine zk_iload_n (pc' := 209) hC rfl ⟨dX3_mixHard_208, rfl⟩ ?_
  first | refine zk_laldU (pc' := 210) hC (by first | decide | assumption | omega) (by first | rfl | assumption) (by omega) (by first | decide | omega) ⟨dX3_mixHard_209, rfl⟩ ?_ | refine zk_laldN (pc' := 210) hC (by first | decide | assumption | omega) (by first | rfl | assumption) (by omega) (by first | decide | omega) ⟨dX3_mixHard_209, rfl⟩ ?_ | refine zk_t1N (pc' := 210) hC (by omega) ⟨dX3_mixHard_209, rfl⟩ ?_
  refine zk_aload_n (pc' := 211) hC rfl ⟨dX3_mixHard_210, rfl⟩ ?_
  refine zk_getr (pc' := 214) hC fl_X3_18 (by first | decide | assumption | omega) (by first | rfl | assumption) rfl ⟨dX3_mixHard_211, rfl⟩ ?_
  refine zk_iload (pc' := 216) hC rfl ⟨dX3_mixHard_214, rfl⟩ ?_
  first | refine zk_laldU (pc' := 217) hC (by first | decide | assumption | omega) (by first | rfl | assumption) (by omega) (by first | decide | omega) ⟨dX3_mixHard_216, rfl⟩ ?_ | refine zk_laldN (pc' := 217) hC (by first | decide | assumption | omega) (by first | rfl | assumption) (by omega) (by first | decide | omega) ⟨dX3_mixHard_216, rfl⟩ ?_ | refine zk_t1N (pc' := 217) hC (by omega) ⟨dX3_mixHard_216, rfl⟩ ?_
  refine zk_lxor (pc' := 218) hC ⟨dX3_mixHard_217, rfl⟩ ?_
  refine zk_bipush (pc' := 220) (x := nI 63) hC ⟨dX3_mixHard_218, rfl⟩ zc_bipush_63 ?_
  refine zk_callS1 (pc' := 223) hC ml_X3_37 ms_X4_turnRight (c_X4_turnRight X I _ _ (k := 63) (by decide)) (by decide) rfl rfl (Nat.le_of_ble_eq_true rfl) ⟨dX3_mixHard_220, rfl⟩ ?_
  first | refine zk_lastU (pc' := 224) hC (by first | decide | assumption | omega) (by first | rfl | assumption) (by omega) (by first | decide | omega) ⟨dX3_mixHard_223, rfl⟩ ?_ | refine zk_lastN (pc' := 224) hC (by first | decide | assumption | omega) (by first | rfl | assumption) (by omega) (by first | decide | omega) ⟨dX3_mixHard_223, rfl⟩ ?_
  refine zk_eqJ (J' := zk_u J 37 (hz_rot (jz_sum (hz_rot (jz_sum (hz_rot (jz_sum (hz_rot (jz_sum (J 37) a b) d a 32) c d) b c 24) a b) d a 16) c d) b c 63)) rfl ?_
  exact zk_vret (pc' := 225) hC hR rfl rfl rfl ⟨dX3_mixHard_224, rfl⟩

set_option maxHeartbeats 1000000 in
set_option maxRecDepth 100000 in
theorem c_X3_stir (X : zk_X) (I : zk_I) (J : zk_J) {st wy : Nat} (hst : st + wy * 7 + 1 < 128) (hwy : wy ≤ 16) : zk_M 0 X yX3_stir cX3_stir 4 none (2, 48) [.ref (zk_ad X 34), .int (nI st), .int (nI wy)] I J none I (jz_set J (J 35) (jz_st (J 36, J 37) st wy).1 (jz_st (J 36, J 37) st wy).2) := by
  refine zk_M.intro (by decide) (lv := [some (.ref (zk_ad X 34)), some (.int (nI st)), some (.int (nI wy)), none]) rfl rfl (fun E hC hR => ?_)
  have hwl : ∀ l, l < 8 → wy * l ≤ wy * 7 := fun l hl => Nat.mul_le_mul_left wy (by omega)
  refine zk_eqJ (J' := jz_set J (J 35) (J 36) (jz_in (J 37) (J 36) st wy 0)) (by rw [jz_in_0, jz_set_self]) ?_
  unfold jz_st at hR
  dsimp only at hR
  generalize J 35 = S at hR ⊢
  generalize J 36 = z at hR ⊢
  generalize J 37 = v at hR ⊢
  refine zk_iconst (pc' := 1) (x := nI 0) hC ⟨dX3_stir_0, rfl⟩ zc_iconst_0 ?_
  refine zk_is3 (pc' := 2) hC ⟨dX3_stir_1, rfl⟩ rfl ?_
  refine zk_up (P := fun l => zk_A 0 X E 2 [some (.ref (zk_ad X 34)), some (.int (nI st)), some (.int (nI wy)), some (.int (nI l))] [] I (jz_set J S z (jz_in v z st wy l))) 8 ?_ (fun l hl ih => ?_)
  · skip
    refine zk_iload_n (pc' := 3) hC rfl ⟨dX3_stir_2, rfl⟩ ?_
    refine zk_bipush (pc' := 5) (x := nI 8) hC ⟨dX3_stir_3, rfl⟩ zc_bipush_8 ?_
    refine zk_icmp_geN (pc' := 8) hC ⟨dX3_stir_5, rfl⟩ 54 (by decide) (by omega) (by omega) (fun q => ?_) (fun q => ?_)
    · generalize jz_in v z st wy 8 = v1 at hR ⊢
      refine zk_iconst (pc' := 55) (x := nI 0) hC ⟨dX3_stir_54, rfl⟩ zc_iconst_0 ?_
      refine zk_is3 (pc' := 56) hC ⟨dX3_stir_55, rfl⟩ rfl ?_
      refine zk_up (P := fun l => zk_A 0 X E 56 [some (.ref (zk_ad X 34)), some (.int (nI st)), some (.int (nI wy)), some (.int (nI l))] [] I (jz_set J S z (jz_r8 v1 l))) 8 ?_ (fun l hl ih => ?_)
      · skip
        refine zk_iload_n (pc' := 57) hC rfl ⟨dX3_stir_56, rfl⟩ ?_
        refine zk_bipush (pc' := 59) (x := nI 8) hC ⟨dX3_stir_57, rfl⟩ zc_bipush_8 ?_
        refine zk_icmp_geN (pc' := 62) hC ⟨dX3_stir_59, rfl⟩ 75 (by decide) (by omega) (by omega) (fun q2 => ?_) (fun q2 => ?_)
        · generalize jz_r8 v1 8 = v2 at hR ⊢
          refine zk_iconst (pc' := 76) (x := nI 0) hC ⟨dX3_stir_75, rfl⟩ zc_iconst_0 ?_
          refine zk_is3 (pc' := 77) hC ⟨dX3_stir_76, rfl⟩ rfl ?_
          refine zk_up (P := fun l => zk_A 0 X E 77 [some (.ref (zk_ad X 34)), some (.int (nI st)), some (.int (nI wy)), some (.int (nI l))] [] I (jz_set J S (jz_out z v2 st wy l) v2)) 8 ?_ (fun l hl ih => ?_)
          · skip
            refine zk_iload_n (pc' := 78) hC rfl ⟨dX3_stir_77, rfl⟩ ?_
            refine zk_bipush (pc' := 80) (x := nI 8) hC ⟨dX3_stir_78, rfl⟩ zc_bipush_8 ?_
            refine zk_icmp_geN (pc' := 83) hC ⟨dX3_stir_80, rfl⟩ 129 (by decide) (by omega) (by omega) (fun q3 => ?_) (fun q3 => ?_)
            · exact zk_vret (pc' := 130) hC hR rfl rfl rfl ⟨dX3_stir_129, rfl⟩
            · omega
          · skip
            have hw9 := hwl l hl
            refine zk_iload_n (pc' := 78) hC rfl ⟨dX3_stir_77, rfl⟩ ?_
            refine zk_bipush (pc' := 80) (x := nI 8) hC ⟨dX3_stir_78, rfl⟩ zc_bipush_8 ?_
            refine zk_icmp_geN (pc' := 83) hC ⟨dX3_stir_80, rfl⟩ 129 (by decide) (by omega) (by omega) (fun q3 => ?_) (fun q3 => ?_)
            · omega
            · refine zk_aload_n (pc' := 84) hC rfl ⟨dX3_stir_83, rfl⟩ ?_
              refine zk_getr (pc' := 87) hC fl_X3_15 (by first | decide | assumption | omega) (by first | rfl | assumption) rfl ⟨dX3_stir_84, rfl⟩ ?_
              refine zk_iload_n (pc' := 88) hC rfl ⟨dX3_stir_87, rfl⟩ ?_
              refine zk_iload_n (pc' := 89) hC rfl ⟨dX3_stir_88, rfl⟩ ?_
              refine zk_iload_n (pc' := 90) hC rfl ⟨dX3_stir_89, rfl⟩ ?_
              first | refine zk_imulN (pc' := 91) hC ⟨dX3_stir_90, rfl⟩ ?_ | refine zk_imul (pc' := 91) hC ⟨dX3_stir_90, rfl⟩ ?_
              first | refine zk_iaddN (pc' := 92) hC ⟨dX3_stir_91, rfl⟩ ?_ | refine zk_iadd (pc' := 92) hC ⟨dX3_stir_91, rfl⟩ ?_
              refine zk_aload_n (pc' := 93) hC rfl ⟨dX3_stir_92, rfl⟩ ?_
              refine zk_getr (pc' := 96) hC fl_X3_18 (by first | decide | assumption | omega) (by first | rfl | assumption) rfl ⟨dX3_stir_93, rfl⟩ ?_
              refine zk_iconst (pc' := 97) (x := nI 2) hC ⟨dX3_stir_96, rfl⟩ zc_iconst_2 ?_
              refine zk_iload_n (pc' := 98) hC rfl ⟨dX3_stir_97, rfl⟩ ?_
              first | refine zk_imulN (pc' := 99) hC ⟨dX3_stir_98, rfl⟩ ?_ | refine zk_imul (pc' := 99) hC ⟨dX3_stir_98, rfl⟩ ?_
              first | refine zk_laldN (pc' := 100) hC (by first | decide | assumption | omega) (by first | rfl | assumption) (by omega) (by first | decide | omega) ⟨dX3_stir_99, rfl⟩ ?_ | refine zk_t1N (pc' := 100) hC (by omega) ⟨dX3_stir_99, rfl⟩ ?_
              rw [jz_set_v]
              first | refine zk_lastN (pc' := 101) hC (by first | decide | assumption | omega) (by first | rfl | assumption) (by omega) (by first | decide | omega) ⟨dX3_stir_100, rfl⟩ ?_
              rw [jz_set_z, jz_u36]
              refine zk_aload_n (pc' := 102) hC rfl ⟨dX3_stir_101, rfl⟩ ?_
              refine zk_getr (pc' := 105) hC fl_X3_15 (by first | decide | assumption | omega) (by first | rfl | assumption) rfl ⟨dX3_stir_102, rfl⟩ ?_
              refine zk_iload_n (pc' := 106) hC rfl ⟨dX3_stir_105, rfl⟩ ?_
              refine zk_iload_n (pc' := 107) hC rfl ⟨dX3_stir_106, rfl⟩ ?_
              refine zk_iload_n (pc' := 108) hC rfl ⟨dX3_stir_107, rfl⟩ ?_
              first | refine zk_imulN (pc' := 109) hC ⟨dX3_stir_108, rfl⟩ ?_ | refine zk_imul (pc' := 109) hC ⟨dX3_stir_108, rfl⟩ ?_
              first | refine zk_iaddN (pc' := 110) hC ⟨dX3_stir_109, rfl⟩ ?_ | refine zk_iadd (pc' := 110) hC ⟨dX3_stir_109, rfl⟩ ?_
              refine zk_iconst (pc' := 111) (x := nI 1) hC ⟨dX3_stir_110, rfl⟩ zc_iconst_1 ?_
              first | refine zk_iaddN (pc' := 112) hC ⟨dX3_stir_111, rfl⟩ ?_ | refine zk_iadd (pc' := 112) hC ⟨dX3_stir_111, rfl⟩ ?_
              refine zk_aload_n (pc' := 113) hC rfl ⟨dX3_stir_112, rfl⟩ ?_
              refine zk_getr (pc' := 116) hC fl_X3_18 (by first | decide | assumption | omega) (by first | rfl | assumption) rfl ⟨dX3_stir_113, rfl⟩ ?_
              refine zk_iconst (pc' := 117) (x := nI 2) hC ⟨dX3_stir_116, rfl⟩ zc_iconst_2 ?_
              refine zk_iload_n (pc' := 118) hC rfl ⟨dX3_stir_117, rfl⟩ ?_
              first | refine zk_imulN (pc' := 119) hC ⟨dX3_stir_118, rfl⟩ ?_ | refine zk_imul (pc' := 119) hC ⟨dX3_stir_118, rfl⟩ ?_
              refine zk_iconst (pc' := 120) (x := nI 1) hC ⟨dX3_stir_119, rfl⟩ zc_iconst_1 ?_
              first | refine zk_iaddN (pc' := 121) hC ⟨dX3_stir_120, rfl⟩ ?_ | refine zk_iadd (pc' := 121) hC ⟨dX3_stir_120, rfl⟩ ?_
              first | refine zk_laldN (pc' := 122) hC (by first | decide | assumption | omega) (by first | rfl | assumption) (by omega) (by first | decide | omega) ⟨dX3_stir_121, rfl⟩ ?_ | refine zk_t1N (pc' := 122) hC (by omega) ⟨dX3_stir_121, rfl⟩ ?_
              rw [jz_set_v]
              first | refine zk_lastN (pc' := 123) hC (by first | decide | assumption | omega) (by first | rfl | assumption) (by omega) (by first | decide | omega) ⟨dX3_stir_122, rfl⟩ ?_
              rw [jz_set_z, jz_u36]
              first | refine zk_in3 (pc' := 126) hC ⟨dX3_stir_123, rfl⟩ ?_ | refine zk_iincG (pc' := 126) hC ⟨dX3_stir_123, rfl⟩ rfl ?_
              refine zk_goto (pc' := 129) hC ⟨dX3_stir_126, rfl⟩ 77 (by decide) ?_
              exact ih
        · omega
      · skip
        refine zk_iload_n (pc' := 57) hC rfl ⟨dX3_stir_56, rfl⟩ ?_
        refine zk_bipush (pc' := 59) (x := nI 8) hC ⟨dX3_stir_57, rfl⟩ zc_bipush_8 ?_
        refine zk_icmp_geN (pc' := 62) hC ⟨dX3_stir_59, rfl⟩ 75 (by decide) (by omega) (by omega) (fun q2 => ?_) (fun q2 => ?_)
        · omega
        · refine zk_aload_n (pc' := 63) hC rfl ⟨dX3_stir_62, rfl⟩ ?_
          refine zk_iconst (pc' := 64) (x := nI 4) hC ⟨dX3_stir_63, rfl⟩ zc_iconst_4 ?_
          refine zk_iload_n (pc' := 65) hC rfl ⟨dX3_stir_64, rfl⟩ ?_
          first | refine zk_imulN (pc' := 66) hC ⟨dX3_stir_65, rfl⟩ ?_ | refine zk_imul (pc' := 66) hC ⟨dX3_stir_65, rfl⟩ ?_
          refine zk_callV0 (pc' := 69) hC ml_X3_25 mi_X3_mixHard (c_X3_mixHard X I _ (p := 4 * l) (by omega)) (by decide) (by first | decide | assumption | omega) (by first | rfl | assumption) rfl rfl rfl (Nat.le_of_ble_eq_true rfl) ⟨dX3_stir_66, rfl⟩ ?_
          rw [jz_set_v, jz_u37]
          first | refine zk_in3 (pc' := 72) hC ⟨dX3_stir_69, rfl⟩ ?_ | refine zk_iincG (pc' := 72) hC ⟨dX3_stir_69, rfl⟩ rfl ?_
          refine zk_goto (pc' := 75) hC ⟨dX3_stir_72, rfl⟩ 56 (by decide) ?_
          exact ih
    · omega
  · skip
    have hw9 := hwl l hl
    refine zk_iload_n (pc' := 3) hC rfl ⟨dX3_stir_2, rfl⟩ ?_
    refine zk_bipush (pc' := 5) (x := nI 8) hC ⟨dX3_stir_3, rfl⟩ zc_bipush_8 ?_
    refine zk_icmp_geN (pc' := 8) hC ⟨dX3_stir_5, rfl⟩ 54 (by decide) (by omega) (by omega) (fun q => ?_) (fun q => ?_)
    · omega
    · refine zk_aload_n (pc' := 9) hC rfl ⟨dX3_stir_8, rfl⟩ ?_
      refine zk_getr (pc' := 12) hC fl_X3_18 (by first | decide | assumption | omega) (by first | rfl | assumption) rfl ⟨dX3_stir_9, rfl⟩ ?_
      refine zk_iconst (pc' := 13) (x := nI 2) hC ⟨dX3_stir_12, rfl⟩ zc_iconst_2 ?_
      refine zk_iload_n (pc' := 14) hC rfl ⟨dX3_stir_13, rfl⟩ ?_
      first | refine zk_imulN (pc' := 15) hC ⟨dX3_stir_14, rfl⟩ ?_ | refine zk_imul (pc' := 15) hC ⟨dX3_stir_14, rfl⟩ ?_
      refine zk_aload_n (pc' := 16) hC rfl ⟨dX3_stir_15, rfl⟩ ?_
      refine zk_getr (pc' := 19) hC fl_X3_15 (by first | decide | assumption | omega) (by first | rfl | assumption) rfl ⟨dX3_stir_16, rfl⟩ ?_
      refine zk_iload_n (pc' := 20) hC rfl ⟨dX3_stir_19, rfl⟩ ?_
      refine zk_iload_n (pc' := 21) hC rfl ⟨dX3_stir_20, rfl⟩ ?_
      refine zk_iload_n (pc' := 22) hC rfl ⟨dX3_stir_21, rfl⟩ ?_
      first | refine zk_imulN (pc' := 23) hC ⟨dX3_stir_22, rfl⟩ ?_ | refine zk_imul (pc' := 23) hC ⟨dX3_stir_22, rfl⟩ ?_
      first | refine zk_iaddN (pc' := 24) hC ⟨dX3_stir_23, rfl⟩ ?_ | refine zk_iadd (pc' := 24) hC ⟨dX3_stir_23, rfl⟩ ?_
      first | refine zk_laldN (pc' := 25) hC (by first | decide | assumption | omega) (by first | rfl | assumption) (by omega) (by first | decide | omega) ⟨dX3_stir_24, rfl⟩ ?_ | refine zk_t1N (pc' := 25) hC (by omega) ⟨dX3_stir_24, rfl⟩ ?_
      rw [jz_set_z]
      first | refine zk_lastN (pc' := 26) hC (by first | decide | assumption | omega) (by first | rfl | assumption) (by omega) (by first | decide | omega) ⟨dX3_stir_25, rfl⟩ ?_
      rw [jz_set_v, jz_u37]
      refine zk_aload_n (pc' := 27) hC rfl ⟨dX3_stir_26, rfl⟩ ?_
      refine zk_getr (pc' := 30) hC fl_X3_18 (by first | decide | assumption | omega) (by first | rfl | assumption) rfl ⟨dX3_stir_27, rfl⟩ ?_
      refine zk_iconst (pc' := 31) (x := nI 2) hC ⟨dX3_stir_30, rfl⟩ zc_iconst_2 ?_
      refine zk_iload_n (pc' := 32) hC rfl ⟨dX3_stir_31, rfl⟩ ?_
      first | refine zk_imulN (pc' := 33) hC ⟨dX3_stir_32, rfl⟩ ?_ | refine zk_imul (pc' := 33) hC ⟨dX3_stir_32, rfl⟩ ?_
      refine zk_iconst (pc' := 34) (x := nI 1) hC ⟨dX3_stir_33, rfl⟩ zc_iconst_1 ?_
      first | refine zk_iaddN (pc' := 35) hC ⟨dX3_stir_34, rfl⟩ ?_ | refine zk_iadd (pc' := 35) hC ⟨dX3_stir_34, rfl⟩ ?_
      refine zk_aload_n (pc' := 36) hC rfl ⟨dX3_stir_35, rfl⟩ ?_
      refine zk_getr (pc' := 39) hC fl_X3_15 (by first | decide | assumption | omega) (by first | rfl | assumption) rfl ⟨dX3_stir_36, rfl⟩ ?_
      refine zk_iload_n (pc' := 40) hC rfl ⟨dX3_stir_39, rfl⟩ ?_
      refine zk_iload_n (pc' := 41) hC rfl ⟨dX3_stir_40, rfl⟩ ?_
      refine zk_iload_n (pc' := 42) hC rfl ⟨dX3_stir_41, rfl⟩ ?_
      first | refine zk_imulN (pc' := 43) hC ⟨dX3_stir_42, rfl⟩ ?_ | refine zk_imul (pc' := 43) hC ⟨dX3_stir_42, rfl⟩ ?_
      first | refine zk_iaddN (pc' := 44) hC ⟨dX3_stir_43, rfl⟩ ?_ | refine zk_iadd (pc' := 44) hC ⟨dX3_stir_43, rfl⟩ ?_
      refine zk_iconst (pc' := 45) (x := nI 1) hC ⟨dX3_stir_44, rfl⟩ zc_iconst_1 ?_
      first | refine zk_iaddN (pc' := 46) hC ⟨dX3_stir_45, rfl⟩ ?_ | refine zk_iadd (pc' := 46) hC ⟨dX3_stir_45, rfl⟩ ?_
      first | refine zk_laldN (pc' := 47) hC (by first | decide | assumption | omega) (by first | rfl | assumption) (by omega) (by first | decide | omega) ⟨dX3_stir_46, rfl⟩ ?_ | refine zk_t1N (pc' := 47) hC (by omega) ⟨dX3_stir_46, rfl⟩ ?_
      rw [jz_set_z]
      first | refine zk_lastN (pc' := 48) hC (by first | decide | assumption | omega) (by first | rfl | assumption) (by omega) (by first | decide | omega) ⟨dX3_stir_47, rfl⟩ ?_
      rw [jz_set_v, jz_u37, jz_in_S]
      first | refine zk_in3 (pc' := 51) hC ⟨dX3_stir_48, rfl⟩ ?_ | refine zk_iincG (pc' := 51) hC ⟨dX3_stir_48, rfl⟩ rfl ?_
      refine zk_goto (pc' := 54) hC ⟨dX3_stir_51, rfl⟩ 2 (by decide) ?_
      exact ih

abbrev jz_ok (k : Nat) : Prop := k < zk_N 0 ∧ zk_sh 0 k = .inl (2, 128) ∧ k ≠ 35 ∧ k ≠ 36 ∧ k ≠ 37
theorem jz_set_set {J : zk_J} {s z v s' z' v' : Nat → Int64} : jz_set (jz_set J s z v) s' z' v' = jz_set J s' z' v' := by
  conv => lhs; unfold jz_set
  rw [show zk_u (zk_u (zk_u J 35 s) 36 z) 37 v = jz_set J s z v from rfl, jz_u35, jz_u36, jz_u37]
set_option maxHeartbeats 1000000 in
set_option maxRecDepth 100000 in
theorem c_X3_join (X : zk_X) (I : zk_I) (J : zk_J) {kx ky ki b : Nat} (hkx : jz_ok kx) (hky : jz_ok ky) (hki : jz_ok ki) (hb : b < 2) : zk_M 0 X yX3_join cX3_join 8 none (3, 71) [.ref (zk_ad X 34), .ref (zk_ad X kx), .ref (zk_ad X ky), .ref (zk_ad X ki), .int (nI b)] I J none I (jz_join J kx ky ki b) := by
  refine zk_M.intro (by decide) (lv := [some (.ref (zk_ad X 34)), some (.ref (zk_ad X kx)), some (.ref (zk_ad X ky)), some (.ref (zk_ad X ki)), some (.int (nI b)), none, none, none]) rfl rfl (fun E hC hR => ?_)
  obtain ⟨hx, hxs, hx1, hx2, hx3⟩ := hkx
  obtain ⟨hy, hys, hy1, hy2, hy3⟩ := hky
  obtain ⟨hi', his, hi1, hi2, hi3⟩ := hki
  refine zk_eqJ (J' := jz_set J (fz_fill (J 35) (jz_x J kx ky) 0) (fz_fill (J 36) (jz_x J kx ky) 0) (J 37)) (by rw [fz_0, fz_0, jz_set_self]) ?_
  refine zk_iconst (pc' := 1) (x := nI 0) hC ⟨dX3_join_0, rfl⟩ zc_iconst_0 ?_
  refine zk_is5 (pc' := 3) hC ⟨dX3_join_1, rfl⟩ rfl ?_
  refine zk_up (P := fun i => zk_A 0 X E 3 [some (.ref (zk_ad X 34)), some (.ref (zk_ad X kx)), some (.ref (zk_ad X ky)), some (.ref (zk_ad X ki)), some (.int (nI b)), some (.int (nI i)), none, none] [] I (jz_set J (fz_fill (J 35) (jz_x J kx ky) i) (fz_fill (J 36) (jz_x J kx ky) i) (J 37))) 128 ?_ (fun i hi ih => ?_)
  · skip
    refine zk_iload (pc' := 5) hC rfl ⟨dX3_join_3, rfl⟩ ?_
    refine zk_sipush (pc' := 8) (x := nI 128) hC ⟨dX3_join_5, rfl⟩ zc_sipush_128 ?_
    refine zk_icmp_geN (pc' := 11) hC ⟨dX3_join_8, rfl⟩ 47 (by decide) (by omega) (by omega) (fun q => ?_) (fun q => ?_)
    · unfold jz_join jz_r jz_zv at hR
      generalize fz_fill (J 35) (jz_x J kx ky) 128 = S at hR ⊢
      generalize fz_fill (J 36) (jz_x J kx ky) 128 = z at hR ⊢
      generalize J 37 = v at hR ⊢
      refine zk_iconst (pc' := 48) (x := nI 0) hC ⟨dX3_join_47, rfl⟩ zc_iconst_0 ?_
      refine zk_is5 (pc' := 50) hC ⟨dX3_join_48, rfl⟩ rfl ?_
      refine zk_up (P := fun i => zk_A 0 X E 50 [some (.ref (zk_ad X 34)), some (.ref (zk_ad X kx)), some (.ref (zk_ad X ky)), some (.ref (zk_ad X ki)), some (.int (nI b)), some (.int (nI i)), none, none] [] I (jz_set J S (jz_rows (z, v) i).1 (jz_rows (z, v) i).2)) 8 ?_ (fun i hi ih => ?_)
      · skip
        refine zk_iload (pc' := 52) hC rfl ⟨dX3_join_50, rfl⟩ ?_
        refine zk_bipush (pc' := 54) (x := nI 8) hC ⟨dX3_join_52, rfl⟩ zc_bipush_8 ?_
        refine zk_icmp_geN (pc' := 57) hC ⟨dX3_join_54, rfl⟩ 73 (by decide) (by omega) (by omega) (fun q2 => ?_) (fun q2 => ?_)
        · generalize jz_rows (z, v) 8 = p1 at hR ⊢
          refine zk_iconst (pc' := 74) (x := nI 0) hC ⟨dX3_join_73, rfl⟩ zc_iconst_0 ?_
          refine zk_is5 (pc' := 76) hC ⟨dX3_join_74, rfl⟩ rfl ?_
          refine zk_up (P := fun i => zk_A 0 X E 76 [some (.ref (zk_ad X 34)), some (.ref (zk_ad X kx)), some (.ref (zk_ad X ky)), some (.ref (zk_ad X ki)), some (.int (nI b)), some (.int (nI i)), none, none] [] I (jz_set J S (jz_cols p1 i).1 (jz_cols p1 i).2)) 8 ?_ (fun i hi ih => ?_)
          · skip
            refine zk_iload (pc' := 78) hC rfl ⟨dX3_join_76, rfl⟩ ?_
            refine zk_bipush (pc' := 80) (x := nI 8) hC ⟨dX3_join_78, rfl⟩ zc_bipush_8 ?_
            refine zk_icmp_geN (pc' := 83) hC ⟨dX3_join_80, rfl⟩ 99 (by decide) (by omega) (by omega) (fun q3 => ?_) (fun q3 => ?_)
            · generalize jz_cols p1 8 = p2 at hR ⊢
              obtain ⟨Z, V⟩ := p2
              dsimp only at hR ⊢
              refine zk_iconst (pc' := 100) (x := nI 0) hC ⟨dX3_join_99, rfl⟩ zc_iconst_0 ?_
              refine zk_is5 (pc' := 102) hC ⟨dX3_join_100, rfl⟩ rfl ?_
              refine zk_eqJ (J' := zk_u (jz_set J S Z V) ki (fz_fill (J ki) (fun k => (if b = 0 then lN 0 else J ki k) ^^^ Z k ^^^ S k) 0)) (by rw [fz_0, show J ki = jz_set J S Z V ki from (jz_set_o hi1 hi2 hi3).symm, zk_u_self]) ?_
              refine zk_up (P := fun i => zk_A 0 X E 102 [some (.ref (zk_ad X 34)), some (.ref (zk_ad X kx)), some (.ref (zk_ad X ky)), some (.ref (zk_ad X ki)), some (.int (nI b)), some (.int (nI i)), none, none] [] I (zk_u (jz_set J S Z V) ki (fz_fill (J ki) (fun k => (if b = 0 then lN 0 else J ki k) ^^^ Z k ^^^ S k) i))) 128 ?_ (fun i hi ih => ?_)
              · skip
                refine zk_iload (pc' := 104) hC rfl ⟨dX3_join_102, rfl⟩ ?_
                refine zk_sipush (pc' := 107) (x := nI 128) hC ⟨dX3_join_104, rfl⟩ zc_sipush_128 ?_
                refine zk_icmp_geN (pc' := 110) hC ⟨dX3_join_107, rfl⟩ 153 (by decide) (by omega) (by omega) (fun q4 => ?_) (fun q4 => ?_)
                · exact zk_vret (pc' := 154) hC hR rfl rfl rfl ⟨dX3_join_153, rfl⟩
                · omega
              · skip
                refine zk_iload (pc' := 104) hC rfl ⟨dX3_join_102, rfl⟩ ?_
                refine zk_sipush (pc' := 107) (x := nI 128) hC ⟨dX3_join_104, rfl⟩ zc_sipush_128 ?_
                refine zk_icmp_geN (pc' := 110) hC ⟨dX3_join_107, rfl⟩ 153 (by decide) (by omega) (by omega) (fun q4 => ?_) (fun q4 => ?_)
                · omega
                · refine zk_iload (pc' := 112) hC rfl ⟨dX3_join_110, rfl⟩ ?_
                  refine zk_if_eqN (pc' := 115) hC ⟨dX3_join_112, rfl⟩ 122 (by decide) (by omega) (fun q5 => ?_) (fun q5 => ?_)
                  · refine zk_lconst (pc' := 123) (x := lN 0) hC ⟨dX3_join_122, rfl⟩ rfl ?_
                    refine zk_ls6 (pc' := 125) hC ⟨dX3_join_123, rfl⟩ rfl ?_
                    refine zk_aload_n (pc' := 126) hC rfl ⟨dX3_join_125, rfl⟩ ?_
                    refine zk_iload (pc' := 128) hC rfl ⟨dX3_join_126, rfl⟩ ?_
                    refine zk_lload (pc' := 130) hC rfl ⟨dX3_join_128, rfl⟩ ?_
                    refine zk_aload_n (pc' := 131) hC rfl ⟨dX3_join_130, rfl⟩ ?_
                    refine zk_getr (pc' := 134) hC fl_X3_15 (by first | decide | assumption | omega) (by first | rfl | assumption) rfl ⟨dX3_join_131, rfl⟩ ?_
                    refine zk_iload (pc' := 136) hC rfl ⟨dX3_join_134, rfl⟩ ?_
                    first | refine zk_laldN (pc' := 137) hC (by first | decide | assumption | omega) (by first | rfl | assumption) (by omega) (by first | decide | omega) ⟨dX3_join_136, rfl⟩ ?_ | refine zk_t1N (pc' := 137) hC (by omega) ⟨dX3_join_136, rfl⟩ ?_
                    rw [zk_u_n (Ne.symm hi2), jz_set_z]
                    refine zk_lxor (pc' := 138) hC ⟨dX3_join_137, rfl⟩ ?_
                    refine zk_aload_n (pc' := 139) hC rfl ⟨dX3_join_138, rfl⟩ ?_
                    refine zk_getr (pc' := 142) hC fl_X3_9 (by first | decide | assumption | omega) (by first | rfl | assumption) rfl ⟨dX3_join_139, rfl⟩ ?_
                    refine zk_iload (pc' := 144) hC rfl ⟨dX3_join_142, rfl⟩ ?_
                    first | refine zk_laldN (pc' := 145) hC (by first | decide | assumption | omega) (by first | rfl | assumption) (by omega) (by first | decide | omega) ⟨dX3_join_144, rfl⟩ ?_ | refine zk_t1N (pc' := 145) hC (by omega) ⟨dX3_join_144, rfl⟩ ?_
                    rw [zk_u_n (Ne.symm hi1), jz_set_s]
                    refine zk_lxor (pc' := 146) hC ⟨dX3_join_145, rfl⟩ ?_
                    first | refine zk_lastN (pc' := 147) hC (by first | decide | assumption | omega) (by first | rfl | assumption) (by omega) (by first | decide | omega) ⟨dX3_join_146, rfl⟩ ?_
                    rw [zk_u_s, zk_u_u, fz_S _ _ i (by rw [if_pos q5])]
                    refine zk_fg6 ?_
                    first | refine zk_in5 (pc' := 150) hC ⟨dX3_join_147, rfl⟩ ?_ | refine zk_iincG (pc' := 150) hC ⟨dX3_join_147, rfl⟩ rfl ?_
                    refine zk_goto (pc' := 153) hC ⟨dX3_join_150, rfl⟩ 102 (by decide) ?_
                    exact ih
                  · refine zk_aload_n (pc' := 116) hC rfl ⟨dX3_join_115, rfl⟩ ?_
                    refine zk_iload (pc' := 118) hC rfl ⟨dX3_join_116, rfl⟩ ?_
                    first | refine zk_laldN (pc' := 119) hC (by first | decide | assumption | omega) (by first | rfl | assumption) (by omega) (by first | decide | omega) ⟨dX3_join_118, rfl⟩ ?_ | refine zk_t1N (pc' := 119) hC (by omega) ⟨dX3_join_118, rfl⟩ ?_
                    rw [zk_u_s, fz_at (Nat.le_refl i)]
                    refine zk_goto (pc' := 122) hC ⟨dX3_join_119, rfl⟩ 123 (by decide) ?_
                    refine zk_ls6 (pc' := 125) hC ⟨dX3_join_123, rfl⟩ rfl ?_
                    refine zk_aload_n (pc' := 126) hC rfl ⟨dX3_join_125, rfl⟩ ?_
                    refine zk_iload (pc' := 128) hC rfl ⟨dX3_join_126, rfl⟩ ?_
                    refine zk_lload (pc' := 130) hC rfl ⟨dX3_join_128, rfl⟩ ?_
                    refine zk_aload_n (pc' := 131) hC rfl ⟨dX3_join_130, rfl⟩ ?_
                    refine zk_getr (pc' := 134) hC fl_X3_15 (by first | decide | assumption | omega) (by first | rfl | assumption) rfl ⟨dX3_join_131, rfl⟩ ?_
                    refine zk_iload (pc' := 136) hC rfl ⟨dX3_join_134, rfl⟩ ?_
                    first | refine zk_laldN (pc' := 137) hC (by first | decide | assumption | omega) (by first | rfl | assumption) (by omega) (by first | decide | omega) ⟨dX3_join_136, rfl⟩ ?_ | refine zk_t1N (pc' := 137) hC (by omega) ⟨dX3_join_136, rfl⟩ ?_
                    rw [zk_u_n (Ne.symm hi2), jz_set_z]
                    refine zk_lxor (pc' := 138) hC ⟨dX3_join_137, rfl⟩ ?_
                    refine zk_aload_n (pc' := 139) hC rfl ⟨dX3_join_138, rfl⟩ ?_
                    refine zk_getr (pc' := 142) hC fl_X3_9 (by first | decide | assumption | omega) (by first | rfl | assumption) rfl ⟨dX3_join_139, rfl⟩ ?_
                    refine zk_iload (pc' := 144) hC rfl ⟨dX3_join_142, rfl⟩ ?_
                    first | refine zk_laldN (pc' := 145) hC (by first | decide | assumption | omega) (by first | rfl | assumption) (by omega) (by first | decide | omega) ⟨dX3_join_144, rfl⟩ ?_ | refine zk_t1N (pc' := 145) hC (by omega) ⟨dX3_join_144, rfl⟩ ?_
                    rw [zk_u_n (Ne.symm hi1), jz_set_s]
                    refine zk_lxor (pc' := 146) hC ⟨dX3_join_145, rfl⟩ ?_
                    first | refine zk_lastN (pc' := 147) hC (by first | decide | assumption | omega) (by first | rfl | assumption) (by omega) (by first | decide | omega) ⟨dX3_join_146, rfl⟩ ?_
                    rw [zk_u_s, zk_u_u, fz_S _ _ i (by rw [if_neg q5])]
                    refine zk_fg6 ?_
                    first | refine zk_in5 (pc' := 150) hC ⟨dX3_join_147, rfl⟩ ?_ | refine zk_iincG (pc' := 150) hC ⟨dX3_join_147, rfl⟩ rfl ?_
                    refine zk_goto (pc' := 153) hC ⟨dX3_join_150, rfl⟩ 102 (by decide) ?_
                    exact ih
            · omega
          · skip
            refine zk_iload (pc' := 78) hC rfl ⟨dX3_join_76, rfl⟩ ?_
            refine zk_bipush (pc' := 80) (x := nI 8) hC ⟨dX3_join_78, rfl⟩ zc_bipush_8 ?_
            refine zk_icmp_geN (pc' := 83) hC ⟨dX3_join_80, rfl⟩ 99 (by decide) (by omega) (by omega) (fun q3 => ?_) (fun q3 => ?_)
            · omega
            · refine zk_aload_n (pc' := 84) hC rfl ⟨dX3_join_83, rfl⟩ ?_
              refine zk_iconst (pc' := 85) (x := nI 2) hC ⟨dX3_join_84, rfl⟩ zc_iconst_2 ?_
              refine zk_iload (pc' := 87) hC rfl ⟨dX3_join_85, rfl⟩ ?_
              first | refine zk_imulN (pc' := 88) hC ⟨dX3_join_87, rfl⟩ ?_ | refine zk_imul (pc' := 88) hC ⟨dX3_join_87, rfl⟩ ?_
              refine zk_bipush (pc' := 90) (x := nI 16) hC ⟨dX3_join_88, rfl⟩ zc_bipush_16 ?_
              refine zk_callV0 (pc' := 93) hC ml_X3_21 mi_X3_stir (c_X3_stir X I _ (st := 2 * i) (wy := 16) (by omega) (by decide)) (by decide) (by first | decide | assumption | omega) (by first | rfl | assumption) rfl rfl rfl (Nat.le_of_ble_eq_true rfl) ⟨dX3_join_90, rfl⟩ ?_
              rw [jz_set_s, jz_set_z, jz_set_v, jz_set_set]
              first | refine zk_in5 (pc' := 96) hC ⟨dX3_join_93, rfl⟩ ?_ | refine zk_iincG (pc' := 96) hC ⟨dX3_join_93, rfl⟩ rfl ?_
              refine zk_goto (pc' := 99) hC ⟨dX3_join_96, rfl⟩ 76 (by decide) ?_
              exact ih
        · omega
      · skip
        refine zk_iload (pc' := 52) hC rfl ⟨dX3_join_50, rfl⟩ ?_
        refine zk_bipush (pc' := 54) (x := nI 8) hC ⟨dX3_join_52, rfl⟩ zc_bipush_8 ?_
        refine zk_icmp_geN (pc' := 57) hC ⟨dX3_join_54, rfl⟩ 73 (by decide) (by omega) (by omega) (fun q2 => ?_) (fun q2 => ?_)
        · omega
        · refine zk_aload_n (pc' := 58) hC rfl ⟨dX3_join_57, rfl⟩ ?_
          refine zk_bipush (pc' := 60) (x := nI 16) hC ⟨dX3_join_58, rfl⟩ zc_bipush_16 ?_
          refine zk_iload (pc' := 62) hC rfl ⟨dX3_join_60, rfl⟩ ?_
          first | refine zk_imulN (pc' := 63) hC ⟨dX3_join_62, rfl⟩ ?_ | refine zk_imul (pc' := 63) hC ⟨dX3_join_62, rfl⟩ ?_
          refine zk_iconst (pc' := 64) (x := nI 2) hC ⟨dX3_join_63, rfl⟩ zc_iconst_2 ?_
          refine zk_callV0 (pc' := 67) hC ml_X3_21 mi_X3_stir (c_X3_stir X I _ (st := 16 * i) (wy := 2) (by omega) (by decide)) (by decide) (by first | decide | assumption | omega) (by first | rfl | assumption) rfl rfl rfl (Nat.le_of_ble_eq_true rfl) ⟨dX3_join_64, rfl⟩ ?_
          rw [jz_set_s, jz_set_z, jz_set_v, jz_set_set]
          first | refine zk_in5 (pc' := 70) hC ⟨dX3_join_67, rfl⟩ ?_ | refine zk_iincG (pc' := 70) hC ⟨dX3_join_67, rfl⟩ rfl ?_
          refine zk_goto (pc' := 73) hC ⟨dX3_join_70, rfl⟩ 50 (by decide) ?_
          exact ih
    · omega
  · skip
    refine zk_iload (pc' := 5) hC rfl ⟨dX3_join_3, rfl⟩ ?_
    refine zk_sipush (pc' := 8) (x := nI 128) hC ⟨dX3_join_5, rfl⟩ zc_sipush_128 ?_
    refine zk_icmp_geN (pc' := 11) hC ⟨dX3_join_8, rfl⟩ 47 (by decide) (by omega) (by omega) (fun q => ?_) (fun q => ?_)
    · omega
    · refine zk_aload_n (pc' := 12) hC rfl ⟨dX3_join_11, rfl⟩ ?_
      refine zk_getr (pc' := 15) hC fl_X3_9 (by first | decide | assumption | omega) (by first | rfl | assumption) rfl ⟨dX3_join_12, rfl⟩ ?_
      refine zk_iload (pc' := 17) hC rfl ⟨dX3_join_15, rfl⟩ ?_
      refine zk_aload_n (pc' := 18) hC rfl ⟨dX3_join_17, rfl⟩ ?_
      refine zk_iload (pc' := 20) hC rfl ⟨dX3_join_18, rfl⟩ ?_
      first | refine zk_laldN (pc' := 21) hC (by first | decide | assumption | omega) (by first | rfl | assumption) (by omega) (by first | decide | omega) ⟨dX3_join_20, rfl⟩ ?_ | refine zk_t1N (pc' := 21) hC (by omega) ⟨dX3_join_20, rfl⟩ ?_
      rw [jz_set_o hx1 hx2 hx3]
      refine zk_aload_n (pc' := 22) hC rfl ⟨dX3_join_21, rfl⟩ ?_
      refine zk_iload (pc' := 24) hC rfl ⟨dX3_join_22, rfl⟩ ?_
      first | refine zk_laldN (pc' := 25) hC (by first | decide | assumption | omega) (by first | rfl | assumption) (by omega) (by first | decide | omega) ⟨dX3_join_24, rfl⟩ ?_ | refine zk_t1N (pc' := 25) hC (by omega) ⟨dX3_join_24, rfl⟩ ?_
      rw [jz_set_o hy1 hy2 hy3]
      refine zk_lxor (pc' := 26) hC ⟨dX3_join_25, rfl⟩ ?_
      first | refine zk_lastN (pc' := 27) hC (by first | decide | assumption | omega) (by first | rfl | assumption) (by omega) (by first | decide | omega) ⟨dX3_join_26, rfl⟩ ?_
      rw [jz_set_s, jz_u35, fz_S _ _ i (x := J kx i ^^^ J ky i) rfl]
      refine zk_aload_n (pc' := 28) hC rfl ⟨dX3_join_27, rfl⟩ ?_
      refine zk_getr (pc' := 31) hC fl_X3_15 (by first | decide | assumption | omega) (by first | rfl | assumption) rfl ⟨dX3_join_28, rfl⟩ ?_
      refine zk_iload (pc' := 33) hC rfl ⟨dX3_join_31, rfl⟩ ?_
      refine zk_aload_n (pc' := 34) hC rfl ⟨dX3_join_33, rfl⟩ ?_
      refine zk_getr (pc' := 37) hC fl_X3_9 (by first | decide | assumption | omega) (by first | rfl | assumption) rfl ⟨dX3_join_34, rfl⟩ ?_
      refine zk_iload (pc' := 39) hC rfl ⟨dX3_join_37, rfl⟩ ?_
      first | refine zk_laldN (pc' := 40) hC (by first | decide | assumption | omega) (by first | rfl | assumption) (by omega) (by first | decide | omega) ⟨dX3_join_39, rfl⟩ ?_ | refine zk_t1N (pc' := 40) hC (by omega) ⟨dX3_join_39, rfl⟩ ?_
      rw [jz_set_s, fz_in (Nat.lt_succ_self i)]
      first | refine zk_lastN (pc' := 41) hC (by first | decide | assumption | omega) (by first | rfl | assumption) (by omega) (by first | decide | omega) ⟨dX3_join_40, rfl⟩ ?_
      rw [jz_set_z, jz_u36, fz_S _ _ i rfl]
      first | refine zk_in5 (pc' := 44) hC ⟨dX3_join_41, rfl⟩ ?_ | refine zk_iincG (pc' := 44) hC ⟨dX3_join_41, rfl⟩ rfl ?_
      refine zk_goto (pc' := 47) hC ⟨dX3_join_44, rfl⟩ 3 (by decide) ?_
      exact ih

