/-! more of the layer: rows that are being written, static tables, min and max over small numbers -/
section ZU
variable {v : Nat} {X : zk_X} {E : zk_E} {own : String} {cc : ByteArray} {dep : Nat × Nat} {pc pc' : Nat} {lv : List (Option Value)} {st : List Value} {I I' : zk_I} {J J' : zk_J}
theorem zk_laldU {k n j : Nat} {g : Nat → Int64} (h : zk_C v X E own cc dep) (hk : k < zk_N v) (hs : zk_sh v k = .inl (2, n)) (hj : j < n) (hn : n < 2 ^ 31) (d : zk_D cc pc pc' .laload 1) (kk : zk_A v X E pc' lv (.long (g j) :: st) I (zk_u J k g)) : zk_A v X E pc lv (.int (nI j) :: .ref (zk_ad X k) :: st) I (zk_u J k g) := zk_laldN h hk hs hj hn d (by rw [zk_u_s]; exact kk)
theorem zk_lastU {k n j : Nat} {g : Nat → Int64} {x : Int64} (h : zk_C v X E own cc dep) (hk : k < zk_N v) (hs : zk_sh v k = .inl (2, n)) (hj : j < n) (hn : n < 2 ^ 31) (d : zk_D cc pc pc' .lastore 1) (kk : zk_A v X E pc' lv st I (zk_u J k (vp_updL g j x))) : zk_A v X E pc lv (.long x :: .int (nI j) :: .ref (zk_ad X k) :: st) I (zk_u J k g) := zk_lastN h hk hs hj hn d (by rw [zk_u_s, zk_u_u]; exact kk)
theorem zk_ialdU {k n j : Nat} {g : Nat → Int32} (h : zk_C v X E own cc dep) (hk : k < zk_N v) (hs : zk_sh v k = .inl (0, n)) (hj : j < n) (hn : n < 2 ^ 31) (d : zk_D cc pc pc' .iaload 1) (kk : zk_A v X E pc' lv (.int (g j) :: st) (zk_u I k g) J) : zk_A v X E pc lv (.int (nI j) :: .ref (zk_ad X k) :: st) (zk_u I k g) J := zk_ialdN h hk hs hj hn d (by rw [zk_u_s]; exact kk)
theorem zk_iastU {k n j : Nat} {g : Nat → Int32} {x : Int32} (h : zk_C v X E own cc dep) (hk : k < zk_N v) (hs : zk_sh v k = .inl (0, n)) (hj : j < n) (hn : n < 2 ^ 31) (d : zk_D cc pc pc' .iastore 1) (kk : zk_A v X E pc' lv st (zk_u I k (upd g j x)) J) : zk_A v X E pc lv (.int x :: .int (nI j) :: .ref (zk_ad X k) :: st) (zk_u I k g) J := zk_iastN h hk hs hj hn d (by rw [zk_u_s, zk_u_u]; exact kk)
theorem zk_t0N {i : Nat} (h : zk_C v X E own cc dep) (hi : i < 32) (d : zk_D cc pc pc' .iaload 1) (kk : zk_A v X E pc' lv (.int (nI (zk_four.getD i 0)) :: st) I J) : zk_A v X E pc lv (.int (nI i) :: .ref (zk_sa X 0) :: st) I J := zk_tiN h rfl hi (by decide) rfl d kk
theorem zk_t1N {i : Nat} (h : zk_C v X E own cc dep) (hi : i < 8) (d : zk_D cc pc pc' .laload 1) (kk : zk_A v X E pc' lv (.long (zk_start.getD i 0) :: st) I J) : zk_A v X E pc lv (.int (nI i) :: .ref (zk_sa X 1) :: st) I J := zk_tlN h rfl hi (by decide) rfl d kk
theorem zk_t2N {i : Nat} (h : zk_C v X E own cc dep) (hi : i < 160) (d : zk_D cc pc pc' .iaload 1) (kk : zk_A v X E pc' lv (.int (nI (zk_ord.getD i 0)) :: st) I J) : zk_A v X E pc lv (.int (nI i) :: .ref (zk_sa X 2) :: st) I J := zk_tiN h rfl hi (by decide) rfl d kk
theorem zk_minN {a b : Nat} (ha : a < 2 ^ 31) (hb : b < 2 ^ 31) : (if nI b < nI a then nI b else nI a) = nI (min a b) := by
  by_cases h : b < a
  · rw [if_pos (nI_lt h ha), Nat.min_eq_right (by omega)]
  · rw [if_neg (nI_nlt (by omega) hb), Nat.min_eq_left (by omega)]
theorem zk_maxN {a b : Nat} (ha : a < 2 ^ 31) (hb : b < 2 ^ 31) : (if nI a < nI b then nI b else nI a) = nI (max a b) := by
  by_cases h : a < b
  · rw [if_pos (nI_lt h hb), Nat.max_eq_right (by omega)]
  · rw [if_neg (nI_nlt (by omega) ha), Nat.max_eq_left (by omega)]
theorem zk_mminN {idx a b : Nat} (h : zk_C v X E own cc dep) (hd : 1 ≤ dep.1 ∧ 21 ≤ dep.2) (h1 : Cond.methodLink own idx Lib.Math.min.name ∈ zk_ws) (h2 : Cond.static Lib.Math.min.name ∈ zk_ws ∧ Cond.initialized "java/lang/Math" ∈ zk_ws ∧ Cond.code Lib.Math.min.name Lib.Math.min.code 2 (some .int) ∈ zk_ws) (hcat : (st.map fun v => v.category).sum ≤ 8) (d : zk_D cc pc pc' (.invokestatic idx) 3) (ha : a < 2 ^ 31) (hb : b < 2 ^ 31) (kk : zk_A v X E pc' lv (.int (nI (min a b)) :: st) I J) : zk_A v X E pc lv (.int (nI b) :: .int (nI a) :: st) I J := zk_mmin h hd h1 h2 hcat d (by rw [zk_minN ha hb]; exact kk)
theorem zk_mmaxN {idx a b : Nat} (h : zk_C v X E own cc dep) (hd : 1 ≤ dep.1 ∧ 21 ≤ dep.2) (h1 : Cond.methodLink own idx Lib.Math.max.name ∈ zk_ws) (h2 : Cond.static Lib.Math.max.name ∈ zk_ws ∧ Cond.initialized "java/lang/Math" ∈ zk_ws ∧ Cond.code Lib.Math.max.name Lib.Math.max.code 2 (some .int) ∈ zk_ws) (hcat : (st.map fun v => v.category).sum ≤ 8) (d : zk_D cc pc pc' (.invokestatic idx) 3) (ha : a < 2 ^ 31) (hb : b < 2 ^ 31) (kk : zk_A v X E pc' lv (.int (nI (max a b)) :: st) I J) : zk_A v X E pc lv (.int (nI b) :: .int (nI a) :: st) I J := zk_mmax h hd h1 h2 hcat d (by rw [zk_maxN ha hb]; exact kk)
end ZU
/-- a row that was filled up to n -/
def fz_fill {α : Type} (b g : Nat → α) (n : Nat) : Nat → α := fun j => if j < n then g j else b j
theorem fz_0 {α : Type} (b g : Nat → α) : fz_fill b g 0 = b := by funext j; simp [fz_fill]
theorem fz_S (b g : Nat → Int64) (i : Nat) {x : Int64} (hx : x = g i) : vp_updL (fz_fill b g i) i x = fz_fill b g (i + 1) := by
  subst hx
  funext j
  by_cases h : j = i
  · subst h; simp [fz_fill, vp_updL]
  · by_cases h2 : j < i
    · simp [fz_fill, vp_updL, h, h2, Nat.lt_succ_of_lt h2]
    · simp [fz_fill, vp_updL, h, h2, show ¬ j < i + 1 by omega]
theorem fz_Si (b g : Nat → Int32) (i : Nat) {x : Int32} (hx : x = g i) : upd (fz_fill b g i) i x = fz_fill b g (i + 1) := by
  subst hx
  funext j
  by_cases h : j = i
  · subst h; simp [fz_fill, upd]
  · by_cases h2 : j < i
    · simp [fz_fill, upd, h, h2, Nat.lt_succ_of_lt h2]
    · simp [fz_fill, upd, h, h2, show ¬ j < i + 1 by omega]
theorem fz_at {α : Type} {b g : Nat → α} {n j : Nat} (h : n ≤ j) : fz_fill b g n j = b j := by simp [fz_fill, Nat.not_lt.mpr h]
theorem fz_in {α : Type} {b g : Nat → α} {n j : Nat} (h : j < n) : fz_fill b g n j = g j := by simp [fz_fill, h]
/-- R(x, k), MIX -/
def hz_R (x : Int64) (k : Nat) : Int64 := (x.toUInt64 >>> ((nI k).toInt64.toUInt64 &&& Int64.toUInt64 63)).toInt64 ||| (x <<< ((nI (64 - k)).toInt64 &&& 63))
def hz_add (v : Nat → Int64) (a b : Nat) (x : Int64) : Nat → Int64 := vp_updL v a (v a + (v b + x))
def hz_rot (v : Nat → Int64) (d a k : Nat) : Nat → Int64 := vp_updL v d (hz_R (v d ^^^ v a) k)
def hz_inc (v : Nat → Int64) (c d : Nat) : Nat → Int64 := vp_updL v c (v c + v d)
def hz_mix (v : Nat → Int64) (a b c d : Nat) (x y : Int64) : Nat → Int64 := hz_rot (hz_inc (hz_rot (hz_add (hz_rot (hz_inc (hz_rot (hz_add v a b x) d a 32) c d) b c 24) a b y) d a 16) c d) b c 63
theorem zk_four_lt : ∀ i, i < 32 → zk_four.getD i 0 < 16 := by decide
theorem zk_ord_lt : ∀ i, i < 160 → zk_ord.getD i 0 < 16 := by decide

set_option maxHeartbeats 4000000 in
set_option maxRecDepth 100000 in
theorem c_X4_turnRight (X : zk_X) (I : zk_I) (J : zk_J) (x : Int64) {k : Nat} (hk : k ≤ 64) : zk_M 0 X yX4_turnRight cX4_turnRight 3 ((some .long)) (0, 0) [.long x, .int (nI k)] I J (some (.long (hz_R x k))) I J := by
  refine zk_M.intro (by decide) (lv := [some (.long x), none, some (.int (nI k))]) rfl rfl (fun E hC hR => ?_)
  refine zk_lload_n (pc' := 1) hC rfl ⟨dX4_turnRight_0, rfl⟩ ?_
  refine zk_iload_n (pc' := 2) hC rfl ⟨dX4_turnRight_1, rfl⟩ ?_
  refine zk_lushr (pc' := 3) hC ⟨dX4_turnRight_2, rfl⟩ ?_
  refine zk_lload_n (pc' := 4) hC rfl ⟨dX4_turnRight_3, rfl⟩ ?_
  refine zk_bipush (pc' := 6) (x := nI 64) hC ⟨dX4_turnRight_4, rfl⟩ zc_bipush_64 ?_
  refine zk_iload_n (pc' := 7) hC rfl ⟨dX4_turnRight_6, rfl⟩ ?_
  first | refine zk_isubN (pc' := 8) hC ⟨dX4_turnRight_7, rfl⟩ (by omega) ?_ | refine zk_isub (pc' := 8) hC ⟨dX4_turnRight_7, rfl⟩ ?_
  refine zk_lshl (pc' := 9) hC ⟨dX4_turnRight_8, rfl⟩ ?_
  refine zk_lor (pc' := 10) hC ⟨dX4_turnRight_9, rfl⟩ ?_
  exact zk_lret (pc' := 11) hC hR rfl rfl rfl ⟨dX4_turnRight_10, rfl⟩

set_option maxHeartbeats 4000000 in
set_option maxRecDepth 100000 in
theorem c_X2_mix (X : zk_X) (I : zk_I) (J : zk_J) {p : Nat} (x y : Int64) (hp : p + 3 < 32) : zk_M 0 X yX2_mix cX2_mix 10 none (1, 22) [.ref (zk_ad X 22), .int (nI p), .long x, .long y] I J none I (zk_u J 28 (hz_mix (J 28) (zk_four.getD p 0) (zk_four.getD (p + 1) 0) (zk_four.getD (p + 2) 0) (zk_four.getD (p + 3) 0) x y)) := by
  refine zk_M.intro (by decide) (lv := [some (.ref (zk_ad X 22)), some (.int (nI p)), some (.long x), none, some (.long y), none, none, none, none, none]) rfl rfl (fun E hC hR => ?_)
  have ha := zk_four_lt p (by omega)
  have hb := zk_four_lt (p + 1) (by omega)
  have hc := zk_four_lt (p + 2) (by omega)
  have hd := zk_four_lt (p + 3) (by omega)
  refine zk_eqJ (J' := zk_u J 28 (J 28)) (zk_u_self J 28).symm ?_
  refine zk_gets (pc' := 3) (j := 0) hC rfl ls_X2_95 ⟨dX2_mix_0, rfl⟩ ?_
  refine zk_iload_n (pc' := 4) hC rfl ⟨dX2_mix_3, rfl⟩ ?_
  first | refine zk_ialdU (pc' := 5) hC (by first | decide | assumption | omega) (by first | rfl | assumption) (by omega) (by first | decide | omega) ⟨dX2_mix_4, rfl⟩ ?_ | refine zk_ialdN (pc' := 5) hC (by first | decide | assumption | omega) (by first | rfl | assumption) (by omega) (by first | decide | omega) ⟨dX2_mix_4, rfl⟩ ?_ | refine zk_t0N (pc' := 5) hC (by omega) ⟨dX2_mix_4, rfl⟩ ?_ | refine zk_t2N (pc' := 5) hC (by omega) ⟨dX2_mix_4, rfl⟩ ?_
  refine zk_is6 (pc' := 7) hC ⟨dX2_mix_5, rfl⟩ rfl ?_
  refine zk_gets (pc' := 10) (j := 0) hC rfl ls_X2_95 ⟨dX2_mix_7, rfl⟩ ?_
  refine zk_iload_n (pc' := 11) hC rfl ⟨dX2_mix_10, rfl⟩ ?_
  refine zk_iconst (pc' := 12) (x := nI 1) hC ⟨dX2_mix_11, rfl⟩ zc_iconst_1 ?_
  first | refine zk_iaddN (pc' := 13) hC ⟨dX2_mix_12, rfl⟩ ?_ | refine zk_iadd (pc' := 13) hC ⟨dX2_mix_12, rfl⟩ ?_
  first | refine zk_ialdU (pc' := 14) hC (by first | decide | assumption | omega) (by first | rfl | assumption) (by omega) (by first | decide | omega) ⟨dX2_mix_13, rfl⟩ ?_ | refine zk_ialdN (pc' := 14) hC (by first | decide | assumption | omega) (by first | rfl | assumption) (by omega) (by first | decide | omega) ⟨dX2_mix_13, rfl⟩ ?_ | refine zk_t0N (pc' := 14) hC (by omega) ⟨dX2_mix_13, rfl⟩ ?_ | refine zk_t2N (pc' := 14) hC (by omega) ⟨dX2_mix_13, rfl⟩ ?_
  refine zk_is7 (pc' := 16) hC ⟨dX2_mix_14, rfl⟩ rfl ?_
  refine zk_gets (pc' := 19) (j := 0) hC rfl ls_X2_95 ⟨dX2_mix_16, rfl⟩ ?_
  refine zk_iload_n (pc' := 20) hC rfl ⟨dX2_mix_19, rfl⟩ ?_
  refine zk_iconst (pc' := 21) (x := nI 2) hC ⟨dX2_mix_20, rfl⟩ zc_iconst_2 ?_
  first | refine zk_iaddN (pc' := 22) hC ⟨dX2_mix_21, rfl⟩ ?_ | refine zk_iadd (pc' := 22) hC ⟨dX2_mix_21, rfl⟩ ?_
  first | refine zk_ialdU (pc' := 23) hC (by first | decide | assumption | omega) (by first | rfl | assumption) (by omega) (by first | decide | omega) ⟨dX2_mix_22, rfl⟩ ?_ | refine zk_ialdN (pc' := 23) hC (by first | decide | assumption | omega) (by first | rfl | assumption) (by omega) (by first | decide | omega) ⟨dX2_mix_22, rfl⟩ ?_ | refine zk_t0N (pc' := 23) hC (by omega) ⟨dX2_mix_22, rfl⟩ ?_ | refine zk_t2N (pc' := 23) hC (by omega) ⟨dX2_mix_22, rfl⟩ ?_
  refine zk_is8 (pc' := 25) hC ⟨dX2_mix_23, rfl⟩ rfl ?_
  refine zk_gets (pc' := 28) (j := 0) hC rfl ls_X2_95 ⟨dX2_mix_25, rfl⟩ ?_
  refine zk_iload_n (pc' := 29) hC rfl ⟨dX2_mix_28, rfl⟩ ?_
  refine zk_iconst (pc' := 30) (x := nI 3) hC ⟨dX2_mix_29, rfl⟩ zc_iconst_3 ?_
  first | refine zk_iaddN (pc' := 31) hC ⟨dX2_mix_30, rfl⟩ ?_ | refine zk_iadd (pc' := 31) hC ⟨dX2_mix_30, rfl⟩ ?_
  first | refine zk_ialdU (pc' := 32) hC (by first | decide | assumption | omega) (by first | rfl | assumption) (by omega) (by first | decide | omega) ⟨dX2_mix_31, rfl⟩ ?_ | refine zk_ialdN (pc' := 32) hC (by first | decide | assumption | omega) (by first | rfl | assumption) (by omega) (by first | decide | omega) ⟨dX2_mix_31, rfl⟩ ?_ | refine zk_t0N (pc' := 32) hC (by omega) ⟨dX2_mix_31, rfl⟩ ?_ | refine zk_t2N (pc' := 32) hC (by omega) ⟨dX2_mix_31, rfl⟩ ?_
  refine zk_is9 (pc' := 34) hC ⟨dX2_mix_32, rfl⟩ rfl ?_
  generalize zk_four.getD p 0 = a at ha hR ⊢
  generalize zk_four.getD (p + 1) 0 = b at hb hR ⊢
  generalize zk_four.getD (p + 2) 0 = c at hc hR ⊢
  generalize zk_four.getD (p + 3) 0 = d at hd hR ⊢
  refine zk_aload_n (pc' := 35) hC rfl ⟨dX2_mix_34, rfl⟩ ?_
  refine zk_getr (pc' := 38) hC fl_X2_27 (by first | decide | assumption | omega) (by first | rfl | assumption) rfl ⟨dX2_mix_35, rfl⟩ ?_
  refine zk_iload (pc' := 40) hC rfl ⟨dX2_mix_38, rfl⟩ ?_
  refine zk_dup2 (pc' := 41) hC ⟨dX2_mix_40, rfl⟩ rfl rfl ?_
  first | refine zk_laldU (pc' := 42) hC (by first | decide | assumption | omega) (by first | rfl | assumption) (by omega) (by first | decide | omega) ⟨dX2_mix_41, rfl⟩ ?_ | refine zk_laldN (pc' := 42) hC (by first | decide | assumption | omega) (by first | rfl | assumption) (by omega) (by first | decide | omega) ⟨dX2_mix_41, rfl⟩ ?_ | refine zk_t1N (pc' := 42) hC (by omega) ⟨dX2_mix_41, rfl⟩ ?_
  refine zk_aload_n (pc' := 43) hC rfl ⟨dX2_mix_42, rfl⟩ ?_
  refine zk_getr (pc' := 46) hC fl_X2_27 (by first | decide | assumption | omega) (by first | rfl | assumption) rfl ⟨dX2_mix_43, rfl⟩ ?_
  refine zk_iload (pc' := 48) hC rfl ⟨dX2_mix_46, rfl⟩ ?_
  first | refine zk_laldU (pc' := 49) hC (by first | decide | assumption | omega) (by first | rfl | assumption) (by omega) (by first | decide | omega) ⟨dX2_mix_48, rfl⟩ ?_ | refine zk_laldN (pc' := 49) hC (by first | decide | assumption | omega) (by first | rfl | assumption) (by omega) (by first | decide | omega) ⟨dX2_mix_48, rfl⟩ ?_ | refine zk_t1N (pc' := 49) hC (by omega) ⟨dX2_mix_48, rfl⟩ ?_
  refine zk_lload_n (pc' := 50) hC rfl ⟨dX2_mix_49, rfl⟩ ?_
  refine zk_ladd (pc' := 51) hC ⟨dX2_mix_50, rfl⟩ ?_
  refine zk_ladd (pc' := 52) hC ⟨dX2_mix_51, rfl⟩ ?_
  first | refine zk_lastU (pc' := 53) hC (by first | decide | assumption | omega) (by first | rfl | assumption) (by omega) (by first | decide | omega) ⟨dX2_mix_52, rfl⟩ ?_ | refine zk_lastN (pc' := 53) hC (by first | decide | assumption | omega) (by first | rfl | assumption) (by omega) (by first | decide | omega) ⟨dX2_mix_52, rfl⟩ ?_
  refine zk_eqJ (J' := zk_u J 28 (hz_add (J 28) a b x)) rfl ?_
  refine zk_aload_n (pc' := 54) hC rfl ⟨dX2_mix_53, rfl⟩ ?_
  refine zk_getr (pc' := 57) hC fl_X2_27 (by first | decide | assumption | omega) (by first | rfl | assumption) rfl ⟨dX2_mix_54, rfl⟩ ?_
  refine zk_iload (pc' := 59) hC rfl ⟨dX2_mix_57, rfl⟩ ?_
  refine zk_aload_n (pc' := 60) hC rfl ⟨dX2_mix_59, rfl⟩ ?_
  refine zk_getr (pc' := 63) hC fl_X2_27 (by first | decide | assumption | omega) (by first | rfl | assumption) rfl ⟨dX2_mix_60, rfl⟩ ?_
  refine zk_iload (pc' := 65) hC rfl ⟨dX2_mix_63, rfl⟩ ?_
  first | refine zk_laldU (pc' := 66) hC (by first | decide | assumption | omega) (by first | rfl | assumption) (by omega) (by first | decide | omega) ⟨dX2_mix_65, rfl⟩ ?_ | refine zk_laldN (pc' := 66) hC (by first | decide | assumption | omega) (by first | rfl | assumption) (by omega) (by first | decide | omega) ⟨dX2_mix_65, rfl⟩ ?_ | refine zk_t1N (pc' := 66) hC (by omega) ⟨dX2_mix_65, rfl⟩ ?_
  refine zk_aload_n (pc' := 67) hC rfl ⟨dX2_mix_66, rfl⟩ ?_
  refine zk_getr (pc' := 70) hC fl_X2_27 (by first | decide | assumption | omega) (by first | rfl | assumption) rfl ⟨dX2_mix_67, rfl⟩ ?_
  refine zk_iload (pc' := 72) hC rfl ⟨dX2_mix_70, rfl⟩ ?_
  first | refine zk_laldU (pc' := 73) hC (by first | decide | assumption | omega) (by first | rfl | assumption) (by omega) (by first | decide | omega) ⟨dX2_mix_72, rfl⟩ ?_ | refine zk_laldN (pc' := 73) hC (by first | decide | assumption | omega) (by first | rfl | assumption) (by omega) (by first | decide | omega) ⟨dX2_mix_72, rfl⟩ ?_ | refine zk_t1N (pc' := 73) hC (by omega) ⟨dX2_mix_72, rfl⟩ ?_
  refine zk_lxor (pc' := 74) hC ⟨dX2_mix_73, rfl⟩ ?_
  refine zk_bipush (pc' := 76) (x := nI 32) hC ⟨dX2_mix_74, rfl⟩ zc_bipush_32 ?_
  refine zk_callS1 (pc' := 79) hC ml_X2_98 ms_X4_turnRight (c_X4_turnRight X I _ _ (k := 32) (by decide)) (by decide) rfl rfl (Nat.le_of_ble_eq_true rfl) ⟨dX2_mix_76, rfl⟩ ?_
  first | refine zk_lastU (pc' := 80) hC (by first | decide | assumption | omega) (by first | rfl | assumption) (by omega) (by first | decide | omega) ⟨dX2_mix_79, rfl⟩ ?_ | refine zk_lastN (pc' := 80) hC (by first | decide | assumption | omega) (by first | rfl | assumption) (by omega) (by first | decide | omega) ⟨dX2_mix_79, rfl⟩ ?_
  refine zk_eqJ (J' := zk_u J 28 (hz_rot (hz_add (J 28) a b x) d a 32)) rfl ?_
  refine zk_aload_n (pc' := 81) hC rfl ⟨dX2_mix_80, rfl⟩ ?_
  refine zk_getr (pc' := 84) hC fl_X2_27 (by first | decide | assumption | omega) (by first | rfl | assumption) rfl ⟨dX2_mix_81, rfl⟩ ?_
  refine zk_iload (pc' := 86) hC rfl ⟨dX2_mix_84, rfl⟩ ?_
  refine zk_dup2 (pc' := 87) hC ⟨dX2_mix_86, rfl⟩ rfl rfl ?_
  first | refine zk_laldU (pc' := 88) hC (by first | decide | assumption | omega) (by first | rfl | assumption) (by omega) (by first | decide | omega) ⟨dX2_mix_87, rfl⟩ ?_ | refine zk_laldN (pc' := 88) hC (by first | decide | assumption | omega) (by first | rfl | assumption) (by omega) (by first | decide | omega) ⟨dX2_mix_87, rfl⟩ ?_ | refine zk_t1N (pc' := 88) hC (by omega) ⟨dX2_mix_87, rfl⟩ ?_
  refine zk_aload_n (pc' := 89) hC rfl ⟨dX2_mix_88, rfl⟩ ?_
  refine zk_getr (pc' := 92) hC fl_X2_27 (by first | decide | assumption | omega) (by first | rfl | assumption) rfl ⟨dX2_mix_89, rfl⟩ ?_
  refine zk_iload (pc' := 94) hC rfl ⟨dX2_mix_92, rfl⟩ ?_
  first | refine zk_laldU (pc' := 95) hC (by first | decide | assumption | omega) (by first | rfl | assumption) (by omega) (by first | decide | omega) ⟨dX2_mix_94, rfl⟩ ?_ | refine zk_laldN (pc' := 95) hC (by first | decide | assumption | omega) (by first | rfl | assumption) (by omega) (by first | decide | omega) ⟨dX2_mix_94, rfl⟩ ?_ | refine zk_t1N (pc' := 95) hC (by omega) ⟨dX2_mix_94, rfl⟩ ?_
  refine zk_ladd (pc' := 96) hC ⟨dX2_mix_95, rfl⟩ ?_
  first | refine zk_lastU (pc' := 97) hC (by first | decide | assumption | omega) (by first | rfl | assumption) (by omega) (by first | decide | omega) ⟨dX2_mix_96, rfl⟩ ?_ | refine zk_lastN (pc' := 97) hC (by first | decide | assumption | omega) (by first | rfl | assumption) (by omega) (by first | decide | omega) ⟨dX2_mix_96, rfl⟩ ?_
  refine zk_eqJ (J' := zk_u J 28 (hz_inc (hz_rot (hz_add (J 28) a b x) d a 32) c d)) rfl ?_
  refine zk_aload_n (pc' := 98) hC rfl ⟨dX2_mix_97, rfl⟩ ?_
  refine zk_getr (pc' := 101) hC fl_X2_27 (by first | decide | assumption | omega) (by first | rfl | assumption) rfl ⟨dX2_mix_98, rfl⟩ ?_
  refine zk_iload (pc' := 103) hC rfl ⟨dX2_mix_101, rfl⟩ ?_
  refine zk_aload_n (pc' := 104) hC rfl ⟨dX2_mix_103, rfl⟩ ?_
  refine zk_getr (pc' := 107) hC fl_X2_27 (by first | decide | assumption | omega) (by first | rfl | assumption) rfl ⟨dX2_mix_104, rfl⟩ ?_
  refine zk_iload (pc' := 109) hC rfl ⟨dX2_mix_107, rfl⟩ ?_
  first | refine zk_laldU (pc' := 110) hC (by first | decide | assumption | omega) (by first | rfl | assumption) (by omega) (by first | decide | omega) ⟨dX2_mix_109, rfl⟩ ?_ | refine zk_laldN (pc' := 110) hC (by first | decide | assumption | omega) (by first | rfl | assumption) (by omega) (by first | decide | omega) ⟨dX2_mix_109, rfl⟩ ?_ | refine zk_t1N (pc' := 110) hC (by omega) ⟨dX2_mix_109, rfl⟩ ?_
  refine zk_aload_n (pc' := 111) hC rfl ⟨dX2_mix_110, rfl⟩ ?_
  refine zk_getr (pc' := 114) hC fl_X2_27 (by first | decide | assumption | omega) (by first | rfl | assumption) rfl ⟨dX2_mix_111, rfl⟩ ?_
  refine zk_iload (pc' := 116) hC rfl ⟨dX2_mix_114, rfl⟩ ?_
  first | refine zk_laldU (pc' := 117) hC (by first | decide | assumption | omega) (by first | rfl | assumption) (by omega) (by first | decide | omega) ⟨dX2_mix_116, rfl⟩ ?_ | refine zk_laldN (pc' := 117) hC (by first | decide | assumption | omega) (by first | rfl | assumption) (by omega) (by first | decide | omega) ⟨dX2_mix_116, rfl⟩ ?_ | refine zk_t1N (pc' := 117) hC (by omega) ⟨dX2_mix_116, rfl⟩ ?_
  refine zk_lxor (pc' := 118) hC ⟨dX2_mix_117, rfl⟩ ?_
  refine zk_bipush (pc' := 120) (x := nI 24) hC ⟨dX2_mix_118, rfl⟩ zc_bipush_24 ?_
  refine zk_callS1 (pc' := 123) hC ml_X2_98 ms_X4_turnRight (c_X4_turnRight X I _ _ (k := 24) (by decide)) (by decide) rfl rfl (Nat.le_of_ble_eq_true rfl) ⟨dX2_mix_120, rfl⟩ ?_
  first | refine zk_lastU (pc' := 124) hC (by first | decide | assumption | omega) (by first | rfl | assumption) (by omega) (by first | decide | omega) ⟨dX2_mix_123, rfl⟩ ?_ | refine zk_lastN (pc' := 124) hC (by first | decide | assumption | omega) (by first | rfl | assumption) (by omega) (by first | decide | omega) ⟨dX2_mix_123, rfl⟩ ?_
  refine zk_eqJ (J' := zk_u J 28 (hz_rot (hz_inc (hz_rot (hz_add (J 28) a b x) d a 32) c d) b c 24)) rfl ?_
  refine zk_aload_n (pc' := 125) hC rfl ⟨dX2_mix_124, rfl⟩ ?_
  refine zk_getr (pc' := 128) hC fl_X2_27 (by first | decide | assumption | omega) (by first | rfl | assumption) rfl ⟨dX2_mix_125, rfl⟩ ?_
  refine zk_iload (pc' := 130) hC rfl ⟨dX2_mix_128, rfl⟩ ?_
  refine zk_dup2 (pc' := 131) hC ⟨dX2_mix_130, rfl⟩ rfl rfl ?_
  first | refine zk_laldU (pc' := 132) hC (by first | decide | assumption | omega) (by first | rfl | assumption) (by omega) (by first | decide | omega) ⟨dX2_mix_131, rfl⟩ ?_ | refine zk_laldN (pc' := 132) hC (by first | decide | assumption | omega) (by first | rfl | assumption) (by omega) (by first | decide | omega) ⟨dX2_mix_131, rfl⟩ ?_ | refine zk_t1N (pc' := 132) hC (by omega) ⟨dX2_mix_131, rfl⟩ ?_
  refine zk_aload_n (pc' := 133) hC rfl ⟨dX2_mix_132, rfl⟩ ?_
  refine zk_getr (pc' := 136) hC fl_X2_27 (by first | decide | assumption | omega) (by first | rfl | assumption) rfl ⟨dX2_mix_133, rfl⟩ ?_
  refine zk_iload (pc' := 138) hC rfl ⟨dX2_mix_136, rfl⟩ ?_
  first | refine zk_laldU (pc' := 139) hC (by first | decide | assumption | omega) (by first | rfl | assumption) (by omega) (by first | decide | omega) ⟨dX2_mix_138, rfl⟩ ?_ | refine zk_laldN (pc' := 139) hC (by first | decide | assumption | omega) (by first | rfl | assumption) (by omega) (by first | decide | omega) ⟨dX2_mix_138, rfl⟩ ?_ | refine zk_t1N (pc' := 139) hC (by omega) ⟨dX2_mix_138, rfl⟩ ?_
  refine zk_lload (pc' := 141) hC rfl ⟨dX2_mix_139, rfl⟩ ?_
  refine zk_ladd (pc' := 142) hC ⟨dX2_mix_141, rfl⟩ ?_
  refine zk_ladd (pc' := 143) hC ⟨dX2_mix_142, rfl⟩ ?_
  first | refine zk_lastU (pc' := 144) hC (by first | decide | assumption | omega) (by first | rfl | assumption) (by omega) (by first | decide | omega) ⟨dX2_mix_143, rfl⟩ ?_ | refine zk_lastN (pc' := 144) hC (by first | decide | assumption | omega) (by first | rfl | assumption) (by omega) (by first | decide | omega) ⟨dX2_mix_143, rfl⟩ ?_
  refine zk_eqJ (J' := zk_u J 28 (hz_add (hz_rot (hz_inc (hz_rot (hz_add (J 28) a b x) d a 32) c d) b c 24) a b y)) rfl ?_
  refine zk_aload_n (pc' := 145) hC rfl ⟨dX2_mix_144, rfl⟩ ?_
  refine zk_getr (pc' := 148) hC fl_X2_27 (by first | decide | assumption | omega) (by first | rfl | assumption) rfl ⟨dX2_mix_145, rfl⟩ ?_
  refine zk_iload (pc' := 150) hC rfl ⟨dX2_mix_148, rfl⟩ ?_
  refine zk_aload_n (pc' := 151) hC rfl ⟨dX2_mix_150, rfl⟩ ?_
  refine zk_getr (pc' := 154) hC fl_X2_27 (by first | decide | assumption | omega) (by first | rfl | assumption) rfl ⟨dX2_mix_151, rfl⟩ ?_
  refine zk_iload (pc' := 156) hC rfl ⟨dX2_mix_154, rfl⟩ ?_
  first | refine zk_laldU (pc' := 157) hC (by first | decide | assumption | omega) (by first | rfl | assumption) (by omega) (by first | decide | omega) ⟨dX2_mix_156, rfl⟩ ?_ | refine zk_laldN (pc' := 157) hC (by first | decide | assumption | omega) (by first | rfl | assumption) (by omega) (by first | decide | omega) ⟨dX2_mix_156, rfl⟩ ?_ | refine zk_t1N (pc' := 157) hC (by omega) ⟨dX2_mix_156, rfl⟩ ?_
  refine zk_aload_n (pc' := 158) hC rfl ⟨dX2_mix_157, rfl⟩ ?_
  refine zk_getr (pc' := 161) hC fl_X2_27 (by first | decide | assumption | omega) (by first | rfl | assumption) rfl ⟨dX2_mix_158, rfl⟩ ?_
  refine zk_iload (pc' := 163) hC rfl ⟨dX2_mix_161, rfl⟩ ?_
  first | refine zk_laldU (pc' := 164) hC (by first | decide | assumption | omega) (by first | rfl | assumption) (by omega) (by first | decide | omega) ⟨dX2_mix_163, rfl⟩ ?_ | refine zk_laldN (pc' := 164) hC (by first | decide | assumption | omega) (by first | rfl | assumption) (by omega) (by first | decide | omega) ⟨dX2_mix_163, rfl⟩ ?_ | refine zk_t1N (pc' := 164) hC (by omega) ⟨dX2_mix_163, rfl⟩ ?_
  refine zk_lxor (pc' := 165) hC ⟨dX2_mix_164, rfl⟩ ?_
  refine zk_bipush (pc' := 167) (x := nI 16) hC ⟨dX2_mix_165, rfl⟩ zc_bipush_16 ?_
  refine zk_callS1 (pc' := 170) hC ml_X2_98 ms_X4_turnRight (c_X4_turnRight X I _ _ (k := 16) (by decide)) (by decide) rfl rfl (Nat.le_of_ble_eq_true rfl) ⟨dX2_mix_167, rfl⟩ ?_
  first | refine zk_lastU (pc' := 171) hC (by first | decide | assumption | omega) (by first | rfl | assumption) (by omega) (by first | decide | omega) ⟨dX2_mix_170, rfl⟩ ?_ | refine zk_lastN (pc' := 171) hC (by first | decide | assumption | omega) (by first | rfl | assumption) (by omega) (by first | decide | omega) ⟨dX2_mix_170, rfl⟩ ?_
  refine zk_eqJ (J' := zk_u J 28 (hz_rot (hz_add (hz_rot (hz_inc (hz_rot (hz_add (J 28) a b x) d a 32) c d) b c 24) a b y) d a 16)) rfl ?_
  refine zk_aload_n (pc' := 172) hC rfl ⟨dX2_mix_171, rfl⟩ ?_
  refine zk_getr (pc' := 175) hC fl_X2_27 (by first | decide | assumption | omega) (by first | rfl | assumption) rfl ⟨dX2_mix_172, rfl⟩ ?_
  refine zk_iload (pc' := 177) hC rfl ⟨dX2_mix_175, rfl⟩ ?_
  refine zk_dup2 (pc' := 178) hC ⟨dX2_mix_177, rfl⟩ rfl rfl ?_
  first | refine zk_laldU (pc' := 179) hC (by first | decide | assumption | omega) (by first | rfl | assumption) (by omega) (by first | decide | omega) ⟨dX2_mix_178, rfl⟩ ?_ | refine zk_laldN (pc' := 179) hC (by first | decide | assumption | omega) (by first | rfl | assumption) (by omega) (by first | decide | omega) ⟨dX2_mix_178, rfl⟩ ?_ | refine zk_t1N (pc' := 179) hC (by omega) ⟨dX2_mix_178, rfl⟩ ?_
  refine zk_aload_n (pc' := 180) hC rfl ⟨dX2_mix_179, rfl⟩ ?_
  refine zk_getr (pc' := 183) hC fl_X2_27 (by first | decide | assumption | omega) (by first | rfl | assumption) rfl ⟨dX2_mix_180, rfl⟩ ?_
  refine zk_iload (pc' := 185) hC rfl ⟨dX2_mix_183, rfl⟩ ?_
  first | refine zk_laldU (pc' := 186) hC (by first | decide | assumption | omega) (by first | rfl | assumption) (by omega) (by first | decide | omega) ⟨dX2_mix_185, rfl⟩ ?_ | refine zk_laldN (pc' := 186) hC (by first | decide | assumption | omega) (by first | rfl | assumption) (by omega) (by first | decide | omega) ⟨dX2_mix_185, rfl⟩ ?_ | refine zk_t1N (pc' := 186) hC (by omega) ⟨dX2_mix_185, rfl⟩ ?_
  refine zk_ladd (pc' := 187) hC ⟨dX2_mix_186, rfl⟩ ?_
  first | refine zk_lastU (pc' := 188) hC (by first | decide | assumption | omega) (by first | rfl | assumption) (by omega) (by first | decide | omega) ⟨dX2_mix_187, rfl⟩ ?_ | refine zk_lastN (pc' := 188) hC (by first | decide | assumption | omega) (by first | rfl | assumption) (by omega) (by first | decide | omega) ⟨dX2_mix_187, rfl⟩ ?_
  refine zk_eqJ (J' := zk_u J 28 (hz_inc (hz_rot (hz_add (hz_rot (hz_inc (hz_rot (hz_add (J 28) a b x) d a 32) c d) b c 24) a b y) d a 16) c d)) rfl ?_
  refine zk_aload_n (pc' := 189) hC rfl ⟨dX2_mix_188, rfl⟩ ?_
  refine zk_getr (pc' := 192) hC fl_X2_27 (by first | decide | assumption | omega) (by first | rfl | assumption) rfl ⟨dX2_mix_189, rfl⟩ ?_
  refine zk_iload (pc' := 194) hC rfl ⟨dX2_mix_192, rfl⟩ ?_
  refine zk_aload_n (pc' := 195) hC rfl ⟨dX2_mix_194, rfl⟩ ?_
  refine zk_getr (pc' := 198) hC fl_X2_27 (by first | decide | assumption | omega) (by first | rfl | assumption) rfl ⟨dX2_mix_195, rfl⟩ ?_
  refine zk_iload (pc' := 200) hC rfl ⟨dX2_mix_198, rfl⟩ ?_
  first | refine zk_laldU (pc' := 201) hC (by first | decide | assumption | omega) (by first | rfl | assumption) (by omega) (by first | decide | omega) ⟨dX2_mix_200, rfl⟩ ?_ | refine zk_laldN (pc' := 201) hC (by first | decide | assumption | omega) (by first | rfl | assumption) (by omega) (by first | decide | omega) ⟨dX2_mix_200, rfl⟩ ?_ | refine zk_t1N (pc' := 201) hC (by omega) ⟨dX2_mix_200, rfl⟩ ?_
  refine zk_aload_n (pc' := 202) hC rfl ⟨dX2_mix_201, rfl⟩ ?_
  refine zk_getr (pc' := 205) hC fl_X2_27 (by first | decide | assumption | omega) (by first | rfl | assumption) rfl ⟨dX2_mix_202, rfl⟩ ?_
  refine zk_iload (pc' := 207) hC rfl ⟨dX2_mix_205, rfl⟩ ?_
  first | refine zk_laldU (pc' := 208) hC (by first | decide | assumption | omega) (by first | rfl | assumption) (by omega) (by first | decide | omega) ⟨dX2_mix_207, rfl⟩ ?_ | refine zk_laldN (pc' := 208) hC (by first | decide | assumption | omega) (by first | rfl | assumption) (by omega) (by first | decide | omega) ⟨dX2_mix_207, rfl⟩ ?_ | refine zk_t1N (pc' := 208) hC (by omega) ⟨dX2_mix_207, rfl⟩ ?_
  refine zk_lxor (pc' := 209) hC ⟨dX2_mix_208, rfl⟩ ?_
  refine zk_bipush (pc' := 211) (x := nI 63) hC ⟨dX2_mix_209, rfl⟩ zc_bipush_63 ?_
  refine zk_callS1 (pc' := 214) hC ml_X2_98 ms_X4_turnRight (c_X4_turnRight X I _ _ (k := 63) (by decide)) (by decide) rfl rfl (Nat.le_of_ble_eq_true rfl) ⟨dX2_mix_211, rfl⟩ ?_
  first | refine zk_lastU (pc' := 215) hC (by first | decide | assumption | omega) (by first | rfl | assumption) (by omega) (by first | decide | omega) ⟨dX2_mix_214, rfl⟩ ?_ | refine zk_lastN (pc' := 215) hC (by first | decide | assumption | omega) (by first | rfl | assumption) (by omega) (by first | decide | omega) ⟨dX2_mix_214, rfl⟩ ?_
  refine zk_eqJ (J' := zk_u J 28 (hz_rot (hz_inc (hz_rot (hz_add (hz_rot (hz_inc (hz_rot (hz_add (J 28) a b x) d a 32) c d) b c 24) a b y) d a 16) c d) b c 63)) rfl ?_
  exact zk_vret (pc' := 216) hC hR rfl rfl rfl ⟨dX2_mix_215, rfl⟩

