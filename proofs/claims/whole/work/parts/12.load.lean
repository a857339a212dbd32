/-! HASHER: words of a message, a part's load, rounds, the digest -/
theorem zk_m1 (x : Int32) : x + Int32.ofInt (-1) = x - nI 1 := by
  rw [Int32.sub_eq_add_neg]
  congr 1
def hz_wd (f : Nat → Int32) (c s : Nat) : Int64 := bz_wa f (min (s + 8) c) (min (s + 8) c - s)
theorem bz_msg : bz_ok 23 24 1028 := ⟨by decide, by decide, rfl, rfl, by decide⟩
theorem bz_made : bz_ok 25 26 1024 := ⟨by decide, by decide, rfl, rfl, by decide⟩
theorem bz_open : bz_ok 20 21 64 := ⟨by decide, by decide, rfl, rfl, by decide⟩
theorem bz_none : bz_ok 18 19 0 := ⟨by decide, by decide, rfl, rfl, by decide⟩
def hz_v0 (v0 h : Nat → Int64) (i : Nat) : Nat → Int64 := fun j => if j < i then h j else if 8 ≤ j ∧ j < 8 + i then zk_start.getD (j - 8) 0 else v0 j
theorem hz_v0_0 (v0 h : Nat → Int64) : hz_v0 v0 h 0 = v0 := by
  funext j
  have : ¬ (8 ≤ j ∧ j < 8) := by omega
  simp [hz_v0, this]
theorem hz_v0_S (v0 h : Nat → Int64) {i : Nat} (hi : i < 8) : vp_updL (vp_updL (hz_v0 v0 h i) i (h i)) (8 + i) (zk_start.getD i 0) = hz_v0 v0 h (i + 1) := by
  funext j
  unfold hz_v0 vp_updL
  by_cases h1 : j = 8 + i
  · subst h1
    rw [if_pos rfl, if_neg (by omega), if_pos (by omega), show 8 + i - 8 = i by omega]
  · rw [if_neg h1]
    by_cases h2 : j = i
    · subst h2
      rw [if_pos rfl, if_pos (by omega)]
    · rw [if_neg h2]
      dsimp only
      by_cases h3 : j < i
      · rw [if_pos h3, if_pos (by omega)]
      · rw [if_neg h3, if_neg (show ¬ j < i + 1 by omega)]
        by_cases h4 : 8 ≤ j ∧ j < 8 + i
        · rw [if_pos h4, if_pos (by omega)]
        · rw [if_neg h4, if_neg (by omega)]
def hz_lv (v0 h : Nat → Int64) (t b : Nat) : Nat → Int64 :=
  if b = 0 then vp_updL (hz_v0 v0 h 8) 12 (hz_v0 v0 h 8 12 ^^^ lN t) else vp_updL (vp_updL (hz_v0 v0 h 8) 12 (hz_v0 v0 h 8 12 ^^^ lN t)) 14 (vp_updL (hz_v0 v0 h 8) 12 (hz_v0 v0 h 8 12 ^^^ lN t) 14 ^^^ (-1))
def hz_fd (h v : Nat → Int64) : Nat → Int64 := fun i => h i ^^^ (v i ^^^ v (8 + i))
/-- the hasher's three rows -/
def hz_set (J : zk_J) (h v w : Nat → Int64) : zk_J := zk_u (zk_u (zk_u J 27 h) 29 w) 28 v
theorem hz_set_self (J : zk_J) : hz_set J (J 27) (J 28) (J 29) = J := by unfold hz_set; rw [zk_u_self, zk_u_self, zk_u_self]
theorem hz_set_h {J : zk_J} {h v w : Nat → Int64} : hz_set J h v w 27 = h := by simp [hz_set, zk_u]
theorem hz_set_v {J : zk_J} {h v w : Nat → Int64} : hz_set J h v w 28 = v := by simp [hz_set, zk_u]
theorem hz_set_w {J : zk_J} {h v w : Nat → Int64} : hz_set J h v w 29 = w := by simp [hz_set, zk_u]
theorem hz_set_o {J : zk_J} {h v w : Nat → Int64} {a : Nat} (h1 : a ≠ 27) (h2 : a ≠ 28) (h3 : a ≠ 29) : hz_set J h v w a = J a := by simp [hz_set, zk_u, h1, h2, h3]
theorem hz_u27 {J : zk_J} {h v w h' : Nat → Int64} : zk_u (hz_set J h v w) 27 h' = hz_set J h' v w := by
  funext a
  by_cases e : a = 27
  · subst e; simp [hz_set, zk_u]
  · simp [hz_set, zk_u, e]
theorem hz_u28 {J : zk_J} {h v w v' : Nat → Int64} : zk_u (hz_set J h v w) 28 v' = hz_set J h v' w := by
  funext a
  by_cases e : a = 28
  · subst e; simp [hz_set, zk_u]
  · simp [hz_set, zk_u, e]
theorem hz_u29 {J : zk_J} {h v w w' : Nat → Int64} : zk_u (hz_set J h v w) 29 w' = hz_set J h v w' := by
  funext a
  by_cases e : a = 29
  · subst e; simp [hz_set, zk_u]
  · simp [hz_set, zk_u, e]
def hz_rd (v w : Nat → Int64) : Nat → Nat → Int64
  | 0 => v
  | s + 1 => hz_mix (hz_rd v w s) (zk_four.getD (4 * (s % 8)) 0) (zk_four.getD (4 * (s % 8) + 1) 0) (zk_four.getD (4 * (s % 8) + 2) 0) (zk_four.getD (4 * (s % 8) + 3) 0) (w (zk_ord.getD (s / 8 % 10 * 16 + 2 * (s % 8)) 0)) (w (zk_ord.getD (s / 8 % 10 * 16 + 2 * (s % 8) + 1) 0))
def hz_k (klen n : Nat) : Int64 := (nI 16842752 ^^^ nI (256 * klen) ^^^ nI n).toInt64
def hz_h0 (h : Nat → Int64) (klen n : Nat) : Nat → Int64 := vp_updL (fz_fill h (fun i => zk_start.getD i 0) 8) 0 (fz_fill h (fun i => zk_start.getD i 0) 8 0 ^^^ hz_k klen n)
def hz_parts (c : Nat) : Nat := max 1 ((c + 128 - 1) / 128)
/-- one part: its words, its v, all rounds, the fold -/
def hz_pw (f : Nat → Int32) (c p : Nat) (w : Nat → Int64) : Nat → Int64 := fz_fill w (fun i => hz_wd f c (p * 128 + i * 8)) 16
def hz_b (c p : Nat) : Nat := if p + 1 = hz_parts c then 1 else 0
def hz_S (f : Nat → Int32) (c : Nat) (s0 : (Nat → Int64) × (Nat → Int64) × (Nat → Int64)) : Nat → (Nat → Int64) × (Nat → Int64) × (Nat → Int64)
  | 0 => s0
  | p + 1 => (fz_fill (hz_S f c s0 p).1 (hz_fd (hz_S f c s0 p).1 (hz_rd (hz_lv (hz_S f c s0 p).2.1 (hz_S f c s0 p).1 (min c ((p + 1) * 128)) (hz_b c p)) (hz_pw f c p (hz_S f c s0 p).2.2) 96)) 8,
      hz_rd (hz_lv (hz_S f c s0 p).2.1 (hz_S f c s0 p).1 (min c ((p + 1) * 128)) (hz_b c p)) (hz_pw f c p (hz_S f c s0 p).2.2) 96,
      hz_pw f c p (hz_S f c s0 p).2.2)
/-- the digest: what the three rows are behind it -/
def hz_D (f : Nat → Int32) (c klen n : Nat) (J : zk_J) : (Nat → Int64) × (Nat → Int64) × (Nat → Int64) := hz_S f c (hz_h0 (J 27) klen n, J 28, J 29) (hz_parts c)
def hz_dg (f : Nat → Int32) (c klen n : Nat) (J : zk_J) : zk_J := hz_set J (hz_D f c klen n J).1 (hz_D f c klen n J).2.1 (hz_D f c klen n J).2.2

set_option maxHeartbeats 4000000 in
set_option maxRecDepth 100000 in
theorem c_X0_wordAt (X : zk_X) (I : zk_I) (J : zk_J) {k k' n c s : Nat} (hb : bz_ok k k' n) (hc : I k 1 = nI c) (hcn : c ≤ n) (hs8 : s < 2 ^ 30) : zk_M 0 X yX0_wordAt cX0_wordAt 6 ((some .long)) (1, 21) [.ref (zk_ad X k), .int (nI s)] I J (some (.long (hz_wd (I k') c s))) I J := by
  obtain ⟨hk, hk', hs, hs', hn⟩ := hb
  unfold hz_wd
  refine zk_M.intro (by decide) (lv := [some (.ref (zk_ad X k)), some (.int (nI s)), none, none, none, none]) rfl rfl (fun E hC hR => ?_)
  refine zk_lconst (pc' := 1) (x := lN 0) hC ⟨dX0_wordAt_0, rfl⟩ rfl ?_
  refine zk_ls2 (pc' := 2) hC ⟨dX0_wordAt_1, rfl⟩ rfl ?_
  refine zk_iload_n (pc' := 3) hC rfl ⟨dX0_wordAt_2, rfl⟩ ?_
  refine zk_bipush (pc' := 5) (x := nI 8) hC ⟨dX0_wordAt_3, rfl⟩ zc_bipush_8 ?_
  first | refine zk_iaddN (pc' := 6) hC ⟨dX0_wordAt_5, rfl⟩ ?_ | refine zk_iadd (pc' := 6) hC ⟨dX0_wordAt_5, rfl⟩ ?_
  refine zk_aload_n (pc' := 7) hC rfl ⟨dX0_wordAt_6, rfl⟩ ?_
  refine zk_geti (pc' := 10) hC fl_X0_21 (by first | decide | assumption | omega) (by first | rfl | assumption) rfl ⟨dX0_wordAt_7, rfl⟩ ?_
  rw [hc]
  first | refine zk_mminN (pc' := 13) hC (by decide) mm_X0_25 mmin_ws (Nat.le_of_ble_eq_true rfl) ⟨dX0_wordAt_10, rfl⟩ (by omega) (by omega) ?_ | refine zk_mmin (pc' := 13) hC (by decide) mm_X0_25 mmin_ws (Nat.le_of_ble_eq_true rfl) ⟨dX0_wordAt_10, rfl⟩ ?_
  refine zk_is4 (pc' := 15) hC ⟨dX0_wordAt_13, rfl⟩ rfl ?_
  generalize he : min (s + 8) c = e at hR ⊢
  have hec : e ≤ c := by omega
  refine zk_iload (pc' := 17) hC rfl ⟨dX0_wordAt_15, rfl⟩ ?_
  refine zk_iconst (pc' := 18) (x := nI 1) hC ⟨dX0_wordAt_17, rfl⟩ zc_iconst_1 ?_
  first | refine zk_isubN (pc' := 19) hC ⟨dX0_wordAt_18, rfl⟩ (by omega) ?_ | refine zk_isub (pc' := 19) hC ⟨dX0_wordAt_18, rfl⟩ ?_
  refine zk_is5 (pc' := 21) hC ⟨dX0_wordAt_19, rfl⟩ rfl ?_
  refine zk_up (P := fun t => zk_A 0 X E 21 [some (.ref (zk_ad X k)), some (.int (nI s)), some (.long (bz_wa (I k') e t)), none, some (.int (nI e)), some (.int (nI (e - t) - nI 1))] [] I J) (e - s) ?_ (fun t ht ih => ?_)
  · skip
    refine zk_iload (pc' := 23) hC rfl ⟨dX0_wordAt_21, rfl⟩ ?_
    refine zk_if_lt (pc' := 26) hC ⟨dX0_wordAt_23, rfl⟩ 56 (by decide) (fun q => ?_) (fun q => ?_)
    · refine zk_lload_n (pc' := 57) hC rfl ⟨dX0_wordAt_56, rfl⟩ ?_
      exact zk_lret (pc' := 58) hC hR rfl rfl rfl ⟨dX0_wordAt_57, rfl⟩
    · refine zk_iload (pc' := 28) hC rfl ⟨dX0_wordAt_26, rfl⟩ ?_
      refine zk_iload_n (pc' := 29) hC rfl ⟨dX0_wordAt_28, rfl⟩ ?_
      refine zk_icmp_lt (pc' := 32) hC ⟨dX0_wordAt_29, rfl⟩ 56 (by decide) (fun q2 => ?_) (fun q2 => ?_)
      · refine zk_lload_n (pc' := 57) hC rfl ⟨dX0_wordAt_56, rfl⟩ ?_
        exact zk_lret (pc' := 58) hC hR rfl rfl rfl ⟨dX0_wordAt_57, rfl⟩
      · exfalso
        by_cases h0 : e - (e - s) = 0
        · exact q (pk_sneg (by decide) (by omega))
        · rw [pk_sub (by omega)] at q2
          exact q2 (nI_lt (by omega) (by omega))
  · skip
    rw [pk_sub (show 1 ≤ e - t by omega)]
    refine zk_iload (pc' := 23) hC rfl ⟨dX0_wordAt_21, rfl⟩ ?_
    refine zk_if_ltN (pc' := 26) hC ⟨dX0_wordAt_23, rfl⟩ 56 (by decide) (by omega) ?_
    refine zk_iload (pc' := 28) hC rfl ⟨dX0_wordAt_26, rfl⟩ ?_
    refine zk_iload_n (pc' := 29) hC rfl ⟨dX0_wordAt_28, rfl⟩ ?_
    refine zk_icmp_ltN (pc' := 32) hC ⟨dX0_wordAt_29, rfl⟩ 56 (by decide) (by omega) (by omega) (fun q2 => ?_) (fun q2 => ?_)
    · omega
    · refine zk_lload_n (pc' := 33) hC rfl ⟨dX0_wordAt_32, rfl⟩ ?_
      refine zk_bipush (pc' := 35) (x := nI 8) hC ⟨dX0_wordAt_33, rfl⟩ zc_bipush_8 ?_
      refine zk_lshl (pc' := 36) hC ⟨dX0_wordAt_35, rfl⟩ ?_
      refine zk_aload_n (pc' := 37) hC rfl ⟨dX0_wordAt_36, rfl⟩ ?_
      refine zk_getr (pc' := 40) hC fl_X0_15 (by first | decide | assumption | omega) (by first | rfl | assumption) rfl ⟨dX0_wordAt_37, rfl⟩ ?_
      refine zk_iload (pc' := 42) hC rfl ⟨dX0_wordAt_40, rfl⟩ ?_
      first | refine zk_baldN (pc' := 43) hC (by first | decide | assumption | omega) (by first | rfl | assumption) (by omega) (by first | decide | omega) ⟨dX0_wordAt_42, rfl⟩ ?_
      refine zk_sipush (pc' := 46) (x := nI 255) hC ⟨dX0_wordAt_43, rfl⟩ zc_sipush_255 ?_
      refine zk_iand (pc' := 47) hC ⟨dX0_wordAt_46, rfl⟩ ?_
      first | refine zk_i2lN (pc' := 48) hC ⟨dX0_wordAt_47, rfl⟩ (by omega) ?_ | refine zk_i2l (pc' := 48) hC ⟨dX0_wordAt_47, rfl⟩ ?_
      refine zk_lor (pc' := 49) hC ⟨dX0_wordAt_48, rfl⟩ ?_
      refine zk_ls2 (pc' := 50) hC ⟨dX0_wordAt_49, rfl⟩ rfl ?_
      refine zk_iincG (pc' := 53) hC ⟨dX0_wordAt_50, rfl⟩ rfl ?_
      rw [zk_m1]
      refine zk_goto (pc' := 56) hC ⟨dX0_wordAt_53, rfl⟩ 21 (by decide) ?_
      exact ih

set_option maxHeartbeats 4000000 in
set_option maxRecDepth 100000 in
theorem c_X2_foldPart (X : zk_X) (I : zk_I) (J : zk_J)  : zk_M 0 X yX2_foldPart cX2_foldPart 2 none (0, 0) [.ref (zk_ad X 22)] I J none I (zk_u J 27 (fz_fill (J 27) (hz_fd (J 27) (J 28)) 8)) := by
  refine zk_M.intro (by decide) (lv := [some (.ref (zk_ad X 22)), none]) rfl rfl (fun E hC hR => ?_)
  refine zk_iconst (pc' := 1) (x := nI 0) hC ⟨dX2_foldPart_0, rfl⟩ zc_iconst_0 ?_
  refine zk_is1 (pc' := 2) hC ⟨dX2_foldPart_1, rfl⟩ rfl ?_
  refine zk_eqJ (J' := zk_u J 27 (fz_fill (J 27) (hz_fd (J 27) (J 28)) 0)) (by rw [fz_0, zk_u_self]) ?_
  refine zk_up (P := fun i => zk_A 0 X E 2 [some (.ref (zk_ad X 22)), some (.int (nI i))] [] I (zk_u J 27 (fz_fill (J 27) (hz_fd (J 27) (J 28)) i))) 8 ?_ (fun i hi ih => ?_)
  · skip
    refine zk_iload_n (pc' := 3) hC rfl ⟨dX2_foldPart_2, rfl⟩ ?_
    refine zk_bipush (pc' := 5) (x := nI 8) hC ⟨dX2_foldPart_3, rfl⟩ zc_bipush_8 ?_
    refine zk_icmp_geN (pc' := 8) hC ⟨dX2_foldPart_5, rfl⟩ 39 (by decide) (by omega) (by omega) (fun q => ?_) (fun q => ?_)
    · exact zk_vret (pc' := 40) hC hR rfl rfl rfl ⟨dX2_foldPart_39, rfl⟩
    · omega
  · skip
    refine zk_iload_n (pc' := 3) hC rfl ⟨dX2_foldPart_2, rfl⟩ ?_
    refine zk_bipush (pc' := 5) (x := nI 8) hC ⟨dX2_foldPart_3, rfl⟩ zc_bipush_8 ?_
    refine zk_icmp_geN (pc' := 8) hC ⟨dX2_foldPart_5, rfl⟩ 39 (by decide) (by omega) (by omega) (fun q => ?_) (fun q => ?_)
    · omega
    · refine zk_aload_n (pc' := 9) hC rfl ⟨dX2_foldPart_8, rfl⟩ ?_
      refine zk_getr (pc' := 12) hC fl_X2_23 (by first | decide | assumption | omega) (by first | rfl | assumption) rfl ⟨dX2_foldPart_9, rfl⟩ ?_
      refine zk_iload_n (pc' := 13) hC rfl ⟨dX2_foldPart_12, rfl⟩ ?_
      refine zk_dup2 (pc' := 14) hC ⟨dX2_foldPart_13, rfl⟩ rfl rfl ?_
      first | refine zk_laldU (pc' := 15) hC (by first | decide | assumption | omega) (by first | rfl | assumption) (by omega) (by first | decide | omega) ⟨dX2_foldPart_14, rfl⟩ ?_ | refine zk_laldN (pc' := 15) hC (by first | decide | assumption | omega) (by first | rfl | assumption) (by omega) (by first | decide | omega) ⟨dX2_foldPart_14, rfl⟩ ?_ | refine zk_t1N (pc' := 15) hC (by omega) ⟨dX2_foldPart_14, rfl⟩ ?_
      refine zk_aload_n (pc' := 16) hC rfl ⟨dX2_foldPart_15, rfl⟩ ?_
      refine zk_getr (pc' := 19) hC fl_X2_27 (by first | decide | assumption | omega) (by first | rfl | assumption) rfl ⟨dX2_foldPart_16, rfl⟩ ?_
      refine zk_iload_n (pc' := 20) hC rfl ⟨dX2_foldPart_19, rfl⟩ ?_
      first | refine zk_laldU (pc' := 21) hC (by first | decide | assumption | omega) (by first | rfl | assumption) (by omega) (by first | decide | omega) ⟨dX2_foldPart_20, rfl⟩ ?_ | refine zk_laldN (pc' := 21) hC (by first | decide | assumption | omega) (by first | rfl | assumption) (by omega) (by first | decide | omega) ⟨dX2_foldPart_20, rfl⟩ ?_ | refine zk_t1N (pc' := 21) hC (by omega) ⟨dX2_foldPart_20, rfl⟩ ?_
      refine zk_aload_n (pc' := 22) hC rfl ⟨dX2_foldPart_21, rfl⟩ ?_
      refine zk_getr (pc' := 25) hC fl_X2_27 (by first | decide | assumption | omega) (by first | rfl | assumption) rfl ⟨dX2_foldPart_22, rfl⟩ ?_
      refine zk_bipush (pc' := 27) (x := nI 8) hC ⟨dX2_foldPart_25, rfl⟩ zc_bipush_8 ?_
      refine zk_iload_n (pc' := 28) hC rfl ⟨dX2_foldPart_27, rfl⟩ ?_
      first | refine zk_iaddN (pc' := 29) hC ⟨dX2_foldPart_28, rfl⟩ ?_ | refine zk_iadd (pc' := 29) hC ⟨dX2_foldPart_28, rfl⟩ ?_
      first | refine zk_laldU (pc' := 30) hC (by first | decide | assumption | omega) (by first | rfl | assumption) (by omega) (by first | decide | omega) ⟨dX2_foldPart_29, rfl⟩ ?_ | refine zk_laldN (pc' := 30) hC (by first | decide | assumption | omega) (by first | rfl | assumption) (by omega) (by first | decide | omega) ⟨dX2_foldPart_29, rfl⟩ ?_ | refine zk_t1N (pc' := 30) hC (by omega) ⟨dX2_foldPart_29, rfl⟩ ?_
      refine zk_lxor (pc' := 31) hC ⟨dX2_foldPart_30, rfl⟩ ?_
      refine zk_lxor (pc' := 32) hC ⟨dX2_foldPart_31, rfl⟩ ?_
      first | refine zk_lastU (pc' := 33) hC (by first | decide | assumption | omega) (by first | rfl | assumption) (by omega) (by first | decide | omega) ⟨dX2_foldPart_32, rfl⟩ ?_ | refine zk_lastN (pc' := 33) hC (by first | decide | assumption | omega) (by first | rfl | assumption) (by omega) (by first | decide | omega) ⟨dX2_foldPart_32, rfl⟩ ?_
      refine zk_eqJ (J' := zk_u J 27 (fz_fill (J 27) (hz_fd (J 27) (J 28)) (i + 1))) (by rw [fz_S _ _ _ (by rw [fz_at (Nat.le_refl i), zk_u_n (by decide)]; rfl)]) ?_
      first | refine zk_in1 (pc' := 36) hC ⟨dX2_foldPart_33, rfl⟩ ?_ | refine zk_iincG (pc' := 36) hC ⟨dX2_foldPart_33, rfl⟩ rfl ?_
      refine zk_goto (pc' := 39) hC ⟨dX2_foldPart_36, rfl⟩ 2 (by decide) ?_
      exact ih

set_option maxHeartbeats 4000000 in
set_option maxRecDepth 100000 in
theorem c_X2_loadPart (X : zk_X) (I : zk_I) (J : zk_J) {c p b : Nat} (hc : I 23 1 = nI c) (hcn : c ≤ 1028) (hp : p < 1000) (hb : b < 2) : zk_M 0 X yX2_loadPart cX2_loadPart 4 none (2, 46) [.ref (zk_ad X 22), .int (nI p), .int (nI b)] I J none I (zk_u (zk_u J 29 (hz_pw (I 24) c p (J 29))) 28 (hz_lv (J 28) (J 27) (min c ((p + 1) * 128)) b)) := by
  unfold hz_pw
  refine zk_M.intro (by decide) (lv := [some (.ref (zk_ad X 22)), some (.int (nI p)), some (.int (nI b)), none]) rfl rfl (fun E hC hR => ?_)
  refine zk_iconst (pc' := 1) (x := nI 0) hC ⟨dX2_loadPart_0, rfl⟩ zc_iconst_0 ?_
  refine zk_is3 (pc' := 2) hC ⟨dX2_loadPart_1, rfl⟩ rfl ?_
  have hg : ∀ i, (fun i => hz_wd (I 24) c (p * 128 + i * 8)) i = hz_wd (I 24) c (p * 128 + i * 8) := fun _ => rfl
  refine zk_eqJ (J' := zk_u J 29 (fz_fill (J 29) (fun i => hz_wd (I 24) c (p * 128 + i * 8)) 0)) (by rw [fz_0, zk_u_self]) ?_
  refine zk_up (P := fun i => zk_A 0 X E 2 [some (.ref (zk_ad X 22)), some (.int (nI p)), some (.int (nI b)), some (.int (nI i))] [] I (zk_u J 29 (fz_fill (J 29) (fun i => hz_wd (I 24) c (p * 128 + i * 8)) i))) 16 ?_ (fun i hi ih => ?_)
  · skip
    refine zk_iload_n (pc' := 3) hC rfl ⟨dX2_loadPart_2, rfl⟩ ?_
    refine zk_bipush (pc' := 5) (x := nI 16) hC ⟨dX2_loadPart_3, rfl⟩ zc_bipush_16 ?_
    refine zk_icmp_geN (pc' := 8) hC ⟨dX2_loadPart_5, rfl⟩ 37 (by decide) (by omega) (by omega) (fun q => ?_) (fun q => ?_)
    · refine zk_iconst (pc' := 38) (x := nI 0) hC ⟨dX2_loadPart_37, rfl⟩ zc_iconst_0 ?_
      refine zk_is3 (pc' := 39) hC ⟨dX2_loadPart_38, rfl⟩ rfl ?_
      generalize hW : fz_fill (J 29) (fun i => hz_wd (I 24) c (p * 128 + i * 8)) 16 = W at hR ⊢
      refine zk_eqJ (J' := zk_u (zk_u J 29 W) 28 (hz_v0 (J 28) (J 27) 0)) (by rw [hz_v0_0, ← zk_u_n (I := J) (k := 29) (g := W) (show 28 ≠ 29 by decide), zk_u_self]) ?_
      refine zk_up (P := fun i => zk_A 0 X E 39 [some (.ref (zk_ad X 22)), some (.int (nI p)), some (.int (nI b)), some (.int (nI i))] [] I (zk_u (zk_u J 29 W) 28 (hz_v0 (J 28) (J 27) i))) 8 ?_ (fun i hi ih => ?_)
      · skip
        refine zk_iload_n (pc' := 40) hC rfl ⟨dX2_loadPart_39, rfl⟩ ?_
        refine zk_bipush (pc' := 42) (x := nI 8) hC ⟨dX2_loadPart_40, rfl⟩ zc_bipush_8 ?_
        refine zk_icmp_geN (pc' := 45) hC ⟨dX2_loadPart_42, rfl⟩ 77 (by decide) (by omega) (by omega) (fun q2 => ?_) (fun q2 => ?_)
        · refine zk_aload_n (pc' := 78) hC rfl ⟨dX2_loadPart_77, rfl⟩ ?_
          refine zk_getr (pc' := 81) hC fl_X2_27 (by first | decide | assumption | omega) (by first | rfl | assumption) rfl ⟨dX2_loadPart_78, rfl⟩ ?_
          refine zk_bipush (pc' := 83) (x := nI 12) hC ⟨dX2_loadPart_81, rfl⟩ zc_bipush_12 ?_
          refine zk_dup2 (pc' := 84) hC ⟨dX2_loadPart_83, rfl⟩ rfl rfl ?_
          first | refine zk_laldU (pc' := 85) hC (by first | decide | assumption | omega) (by first | rfl | assumption) (by omega) (by first | decide | omega) ⟨dX2_loadPart_84, rfl⟩ ?_ | refine zk_laldN (pc' := 85) hC (by first | decide | assumption | omega) (by first | rfl | assumption) (by omega) (by first | decide | omega) ⟨dX2_loadPart_84, rfl⟩ ?_ | refine zk_t1N (pc' := 85) hC (by omega) ⟨dX2_loadPart_84, rfl⟩ ?_
          refine zk_aload_n (pc' := 86) hC rfl ⟨dX2_loadPart_85, rfl⟩ ?_
          refine zk_getr (pc' := 89) hC fl_X2_16 (by first | decide | assumption | omega) (by first | rfl | assumption) rfl ⟨dX2_loadPart_86, rfl⟩ ?_
          refine zk_geti (pc' := 92) hC fl_X2_36 (by first | decide | assumption | omega) (by first | rfl | assumption) rfl ⟨dX2_loadPart_89, rfl⟩ ?_
          rw [hc]
          refine zk_iload_n (pc' := 93) hC rfl ⟨dX2_loadPart_92, rfl⟩ ?_
          refine zk_iconst (pc' := 94) (x := nI 1) hC ⟨dX2_loadPart_93, rfl⟩ zc_iconst_1 ?_
          first | refine zk_iaddN (pc' := 95) hC ⟨dX2_loadPart_94, rfl⟩ ?_ | refine zk_iadd (pc' := 95) hC ⟨dX2_loadPart_94, rfl⟩ ?_
          refine zk_sipush (pc' := 98) (x := nI 128) hC ⟨dX2_loadPart_95, rfl⟩ zc_sipush_128 ?_
          first | refine zk_imulN (pc' := 99) hC ⟨dX2_loadPart_98, rfl⟩ ?_ | refine zk_imul (pc' := 99) hC ⟨dX2_loadPart_98, rfl⟩ ?_
          first | refine zk_mminN (pc' := 102) hC (by decide) mm_X2_61 mmin_ws (Nat.le_of_ble_eq_true rfl) ⟨dX2_loadPart_99, rfl⟩ (by omega) (by omega) ?_ | refine zk_mmin (pc' := 102) hC (by decide) mm_X2_61 mmin_ws (Nat.le_of_ble_eq_true rfl) ⟨dX2_loadPart_99, rfl⟩ ?_
          first | refine zk_i2lN (pc' := 103) hC ⟨dX2_loadPart_102, rfl⟩ (by omega) ?_ | refine zk_i2l (pc' := 103) hC ⟨dX2_loadPart_102, rfl⟩ ?_
          refine zk_lxor (pc' := 104) hC ⟨dX2_loadPart_103, rfl⟩ ?_
          first | refine zk_lastU (pc' := 105) hC (by first | decide | assumption | omega) (by first | rfl | assumption) (by omega) (by first | decide | omega) ⟨dX2_loadPart_104, rfl⟩ ?_ | refine zk_lastN (pc' := 105) hC (by first | decide | assumption | omega) (by first | rfl | assumption) (by omega) (by first | decide | omega) ⟨dX2_loadPart_104, rfl⟩ ?_
          refine zk_iload_n (pc' := 106) hC rfl ⟨dX2_loadPart_105, rfl⟩ ?_
          refine zk_if_eqN (pc' := 109) hC ⟨dX2_loadPart_106, rfl⟩ 127 (by decide) (by omega) (fun q3 => ?_) (fun q3 => ?_)
          · exact zk_vret (pc' := 128) hC hR rfl rfl (by rw [hz_lv, if_pos q3]) ⟨dX2_loadPart_127, rfl⟩
          · refine zk_aload_n (pc' := 110) hC rfl ⟨dX2_loadPart_109, rfl⟩ ?_
            refine zk_getr (pc' := 113) hC fl_X2_27 (by first | decide | assumption | omega) (by first | rfl | assumption) rfl ⟨dX2_loadPart_110, rfl⟩ ?_
            refine zk_bipush (pc' := 115) (x := nI 14) hC ⟨dX2_loadPart_113, rfl⟩ zc_bipush_14 ?_
            refine zk_aload_n (pc' := 116) hC rfl ⟨dX2_loadPart_115, rfl⟩ ?_
            refine zk_getr (pc' := 119) hC fl_X2_27 (by first | decide | assumption | omega) (by first | rfl | assumption) rfl ⟨dX2_loadPart_116, rfl⟩ ?_
            refine zk_bipush (pc' := 121) (x := nI 14) hC ⟨dX2_loadPart_119, rfl⟩ zc_bipush_14 ?_
            first | refine zk_laldU (pc' := 122) hC (by first | decide | assumption | omega) (by first | rfl | assumption) (by omega) (by first | decide | omega) ⟨dX2_loadPart_121, rfl⟩ ?_ | refine zk_laldN (pc' := 122) hC (by first | decide | assumption | omega) (by first | rfl | assumption) (by omega) (by first | decide | omega) ⟨dX2_loadPart_121, rfl⟩ ?_ | refine zk_t1N (pc' := 122) hC (by omega) ⟨dX2_loadPart_121, rfl⟩ ?_
            refine zk_ldc2 (pc' := 125) (x := -1) hC ⟨dX2_loadPart_122, rfl⟩ kl_X2_93 ?_
            refine zk_lxor (pc' := 126) hC ⟨dX2_loadPart_125, rfl⟩ ?_
            first | refine zk_lastU (pc' := 127) hC (by first | decide | assumption | omega) (by first | rfl | assumption) (by omega) (by first | decide | omega) ⟨dX2_loadPart_126, rfl⟩ ?_ | refine zk_lastN (pc' := 127) hC (by first | decide | assumption | omega) (by first | rfl | assumption) (by omega) (by first | decide | omega) ⟨dX2_loadPart_126, rfl⟩ ?_
            exact zk_vret (pc' := 128) hC hR rfl rfl (by rw [hz_lv, if_neg q3]) ⟨dX2_loadPart_127, rfl⟩
        · omega
      · skip
        refine zk_iload_n (pc' := 40) hC rfl ⟨dX2_loadPart_39, rfl⟩ ?_
        refine zk_bipush (pc' := 42) (x := nI 8) hC ⟨dX2_loadPart_40, rfl⟩ zc_bipush_8 ?_
        refine zk_icmp_geN (pc' := 45) hC ⟨dX2_loadPart_42, rfl⟩ 77 (by decide) (by omega) (by omega) (fun q2 => ?_) (fun q2 => ?_)
        · omega
        · refine zk_aload_n (pc' := 46) hC rfl ⟨dX2_loadPart_45, rfl⟩ ?_
          refine zk_getr (pc' := 49) hC fl_X2_27 (by first | decide | assumption | omega) (by first | rfl | assumption) rfl ⟨dX2_loadPart_46, rfl⟩ ?_
          refine zk_iload_n (pc' := 50) hC rfl ⟨dX2_loadPart_49, rfl⟩ ?_
          refine zk_aload_n (pc' := 51) hC rfl ⟨dX2_loadPart_50, rfl⟩ ?_
          refine zk_getr (pc' := 54) hC fl_X2_23 (by first | decide | assumption | omega) (by first | rfl | assumption) rfl ⟨dX2_loadPart_51, rfl⟩ ?_
          refine zk_iload_n (pc' := 55) hC rfl ⟨dX2_loadPart_54, rfl⟩ ?_
          first | refine zk_laldU (pc' := 56) hC (by first | decide | assumption | omega) (by first | rfl | assumption) (by omega) (by first | decide | omega) ⟨dX2_loadPart_55, rfl⟩ ?_ | refine zk_laldN (pc' := 56) hC (by first | decide | assumption | omega) (by first | rfl | assumption) (by omega) (by first | decide | omega) ⟨dX2_loadPart_55, rfl⟩ ?_ | refine zk_t1N (pc' := 56) hC (by omega) ⟨dX2_loadPart_55, rfl⟩ ?_
          rw [zk_u_n (show 27 ≠ 28 by decide), zk_u_n (show 27 ≠ 29 by decide)]
          first | refine zk_lastU (pc' := 57) hC (by first | decide | assumption | omega) (by first | rfl | assumption) (by omega) (by first | decide | omega) ⟨dX2_loadPart_56, rfl⟩ ?_ | refine zk_lastN (pc' := 57) hC (by first | decide | assumption | omega) (by first | rfl | assumption) (by omega) (by first | decide | omega) ⟨dX2_loadPart_56, rfl⟩ ?_
          refine zk_aload_n (pc' := 58) hC rfl ⟨dX2_loadPart_57, rfl⟩ ?_
          refine zk_getr (pc' := 61) hC fl_X2_27 (by first | decide | assumption | omega) (by first | rfl | assumption) rfl ⟨dX2_loadPart_58, rfl⟩ ?_
          refine zk_bipush (pc' := 63) (x := nI 8) hC ⟨dX2_loadPart_61, rfl⟩ zc_bipush_8 ?_
          refine zk_iload_n (pc' := 64) hC rfl ⟨dX2_loadPart_63, rfl⟩ ?_
          first | refine zk_iaddN (pc' := 65) hC ⟨dX2_loadPart_64, rfl⟩ ?_ | refine zk_iadd (pc' := 65) hC ⟨dX2_loadPart_64, rfl⟩ ?_
          refine zk_gets (pc' := 68) (j := 1) hC rfl ls_X2_67 ⟨dX2_loadPart_65, rfl⟩ ?_
          refine zk_iload_n (pc' := 69) hC rfl ⟨dX2_loadPart_68, rfl⟩ ?_
          first | refine zk_laldU (pc' := 70) hC (by first | decide | assumption | omega) (by first | rfl | assumption) (by omega) (by first | decide | omega) ⟨dX2_loadPart_69, rfl⟩ ?_ | refine zk_laldN (pc' := 70) hC (by first | decide | assumption | omega) (by first | rfl | assumption) (by omega) (by first | decide | omega) ⟨dX2_loadPart_69, rfl⟩ ?_ | refine zk_t1N (pc' := 70) hC (by omega) ⟨dX2_loadPart_69, rfl⟩ ?_
          first | refine zk_lastU (pc' := 71) hC (by first | decide | assumption | omega) (by first | rfl | assumption) (by omega) (by first | decide | omega) ⟨dX2_loadPart_70, rfl⟩ ?_ | refine zk_lastN (pc' := 71) hC (by first | decide | assumption | omega) (by first | rfl | assumption) (by omega) (by first | decide | omega) ⟨dX2_loadPart_70, rfl⟩ ?_
          rw [hz_v0_S _ _ hi]
          first | refine zk_in3 (pc' := 74) hC ⟨dX2_loadPart_71, rfl⟩ ?_ | refine zk_iincG (pc' := 74) hC ⟨dX2_loadPart_71, rfl⟩ rfl ?_
          refine zk_goto (pc' := 77) hC ⟨dX2_loadPart_74, rfl⟩ 39 (by decide) ?_
          exact ih
    · omega
  · skip
    refine zk_iload_n (pc' := 3) hC rfl ⟨dX2_loadPart_2, rfl⟩ ?_
    refine zk_bipush (pc' := 5) (x := nI 16) hC ⟨dX2_loadPart_3, rfl⟩ zc_bipush_16 ?_
    refine zk_icmp_geN (pc' := 8) hC ⟨dX2_loadPart_5, rfl⟩ 37 (by decide) (by omega) (by omega) (fun q => ?_) (fun q => ?_)
    · omega
    · refine zk_aload_n (pc' := 9) hC rfl ⟨dX2_loadPart_8, rfl⟩ ?_
      refine zk_getr (pc' := 12) hC fl_X2_30 (by first | decide | assumption | omega) (by first | rfl | assumption) rfl ⟨dX2_loadPart_9, rfl⟩ ?_
      refine zk_iload_n (pc' := 13) hC rfl ⟨dX2_loadPart_12, rfl⟩ ?_
      refine zk_aload_n (pc' := 14) hC rfl ⟨dX2_loadPart_13, rfl⟩ ?_
      refine zk_getr (pc' := 17) hC fl_X2_16 (by first | decide | assumption | omega) (by first | rfl | assumption) rfl ⟨dX2_loadPart_14, rfl⟩ ?_
      refine zk_iload_n (pc' := 18) hC rfl ⟨dX2_loadPart_17, rfl⟩ ?_
      refine zk_sipush (pc' := 21) (x := nI 128) hC ⟨dX2_loadPart_18, rfl⟩ zc_sipush_128 ?_
      first | refine zk_imulN (pc' := 22) hC ⟨dX2_loadPart_21, rfl⟩ ?_ | refine zk_imul (pc' := 22) hC ⟨dX2_loadPart_21, rfl⟩ ?_
      refine zk_iload_n (pc' := 23) hC rfl ⟨dX2_loadPart_22, rfl⟩ ?_
      refine zk_bipush (pc' := 25) (x := nI 8) hC ⟨dX2_loadPart_23, rfl⟩ zc_bipush_8 ?_
      first | refine zk_imulN (pc' := 26) hC ⟨dX2_loadPart_25, rfl⟩ ?_ | refine zk_imul (pc' := 26) hC ⟨dX2_loadPart_25, rfl⟩ ?_
      first | refine zk_iaddN (pc' := 27) hC ⟨dX2_loadPart_26, rfl⟩ ?_ | refine zk_iadd (pc' := 27) hC ⟨dX2_loadPart_26, rfl⟩ ?_
      refine zk_callV1 (pc' := 30) hC ml_X2_89 mi_X0_wordAt (c_X0_wordAt X I _ bz_msg hc hcn (s := p * 128 + i * 8) (by omega)) (by decide) (by first | decide | assumption | omega) (by first | rfl | assumption) rfl rfl rfl (Nat.le_of_ble_eq_true rfl) ⟨dX2_loadPart_27, rfl⟩ ?_
      first | refine zk_lastU (pc' := 31) hC (by first | decide | assumption | omega) (by first | rfl | assumption) (by omega) (by first | decide | omega) ⟨dX2_loadPart_30, rfl⟩ ?_ | refine zk_lastN (pc' := 31) hC (by first | decide | assumption | omega) (by first | rfl | assumption) (by omega) (by first | decide | omega) ⟨dX2_loadPart_30, rfl⟩ ?_
      rw [fz_S _ _ i rfl]
      first | refine zk_in3 (pc' := 34) hC ⟨dX2_loadPart_31, rfl⟩ ?_ | refine zk_iincG (pc' := 34) hC ⟨dX2_loadPart_31, rfl⟩ rfl ?_
      refine zk_goto (pc' := 37) hC ⟨dX2_loadPart_34, rfl⟩ 2 (by decide) ?_
      exact ih

