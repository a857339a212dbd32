/-- the six numbers ahead of a filling's hash -/
def fl_set (p : Nat × (Nat → Int32)) (ln tg mm ps kd : Nat) : Nat × (Nat → Int32) := bz_pn 1028 (bz_pn 1028 (bz_pn 1028 (bz_pn 1028 (bz_pn 1028 (bz_pn 1028 p (lN ln) 4) (lN tg) 4) (lN mm) 4) (lN ps) 4) 19 4) (lN kd) 4
theorem bz_set_g {I : zk_I} {p : Nat × (Nat → Int32)} {g : Nat → Int32} (h : I 30 = g) : bz_set I 23 24 p 30 = g := by rw [bz_set_o (by decide) (by decide)]; exact h

set_option maxHeartbeats 1000000 in
set_option maxRecDepth 100000 in
theorem c_X1_putSettings (X : zk_X) (I : zk_I) (J : zk_J) {g0 : Nat → Int32} {kd ln ps tg lb sb dn pa sl la : Nat} (hI : I 30 = fl_g g0 kd ln ps tg lb sb dn pa sl la) {c mm : Nat} (hc : I 23 1 = nI c) (hcn : c ≤ 1028) (h1 : ln ≤ 4) (h2 : tg ≤ 128) (h3 : mm ≤ 128) (h4 : ps ≤ 5) (h5 : kd ≤ 2) : zk_M 0 X yX1_putSettings cX1_putSettings 3 none (2, 45) [.ref (zk_ad X 30), .ref (zk_ad X 23), .int (nI mm)] I J none (bz_set I 23 24 (fl_set (c, I 24) ln tg mm ps kd)) J := by
  refine zk_M.intro (by decide) (lv := [some (.ref (zk_ad X 30)), some (.ref (zk_ad X 23)), some (.int (nI mm))]) rfl rfl (fun E hC hR => ?_)
  have hIg : ∀ p, bz_set I 23 24 p 30 = fl_g g0 kd ln ps tg lb sb dn pa sl la := fun p => bz_set_g hI
  refine zk_eqI (I' := bz_set I 23 24 (c, I 24)) (bz_set_same hc).symm ?_
  unfold fl_set at hR
  have hle0 : ((c, I 24) : Nat × (Nat → Int32)).1 ≤ 1028 := hcn
  have hI := hIg (c, I 24)
  refine zk_aload_n (pc' := 1) hC rfl ⟨dX1_putSettings_0, rfl⟩ ?_
  refine zk_aload_n (pc' := 2) hC rfl ⟨dX1_putSettings_1, rfl⟩ ?_
  first | refine zk_getiN (pc' := 5) hC fl_X1_38 (by first | decide | assumption | omega) (by first | rfl | assumption) rfl (by first | assumption | (rw [zk_u_s]; rfl) | (rw [hI]; rfl)) ⟨dX1_putSettings_2, rfl⟩ ?_ | refine zk_geti (pc' := 5) hC fl_X1_38 (by first | decide | assumption | omega) (by first | rfl | assumption) rfl ⟨dX1_putSettings_2, rfl⟩ ?_
  first | refine zk_i2lN (pc' := 6) hC ⟨dX1_putSettings_5, rfl⟩ (by omega) ?_ | refine zk_i2l (pc' := 6) hC ⟨dX1_putSettings_5, rfl⟩ ?_
  refine zk_iconst (pc' := 7) (x := nI 4) hC ⟨dX1_putSettings_6, rfl⟩ zc_iconst_4 ?_
  refine zk_callV0 (pc' := 10) hC ml_X1_56 mi_X0_putNumber (c_X0_putNumber X (bz_set I 23 24 (c, I 24)) J bz_msg (q := 4) (lN ln) (nI 4) (Or.inl ⟨rfl, by decide⟩) bz_set_c hle0) (by decide) (by first | decide | assumption | omega) (by first | rfl | assumption) rfl rfl rfl (Nat.le_of_ble_eq_true rfl) ⟨dX1_putSettings_7, rfl⟩ ?_
  rw [bz_set_f (show 24 ≠ 23 by decide), bz_set_set (show 24 ≠ 23 by decide)]
  have hle1 := bz_pn_le (x := (lN ln)) hle0 4
  generalize bz_pn 1028 (c, I 24) (lN ln) 4 = p1 at hR hle1 ⊢
  have hI := hIg p1
  refine zk_aload_n (pc' := 11) hC rfl ⟨dX1_putSettings_10, rfl⟩ ?_
  refine zk_aload_n (pc' := 12) hC rfl ⟨dX1_putSettings_11, rfl⟩ ?_
  first | refine zk_getiN (pc' := 15) hC fl_X1_44 (by first | decide | assumption | omega) (by first | rfl | assumption) rfl (by first | assumption | (rw [zk_u_s]; rfl) | (rw [hI]; rfl)) ⟨dX1_putSettings_12, rfl⟩ ?_ | refine zk_geti (pc' := 15) hC fl_X1_44 (by first | decide | assumption | omega) (by first | rfl | assumption) rfl ⟨dX1_putSettings_12, rfl⟩ ?_
  first | refine zk_i2lN (pc' := 16) hC ⟨dX1_putSettings_15, rfl⟩ (by omega) ?_ | refine zk_i2l (pc' := 16) hC ⟨dX1_putSettings_15, rfl⟩ ?_
  refine zk_iconst (pc' := 17) (x := nI 4) hC ⟨dX1_putSettings_16, rfl⟩ zc_iconst_4 ?_
  refine zk_callV0 (pc' := 20) hC ml_X1_56 mi_X0_putNumber (c_X0_putNumber X (bz_set I 23 24 p1) J bz_msg (q := 4) (lN tg) (nI 4) (Or.inl ⟨rfl, by decide⟩) bz_set_c hle1) (by decide) (by first | decide | assumption | omega) (by first | rfl | assumption) rfl rfl rfl (Nat.le_of_ble_eq_true rfl) ⟨dX1_putSettings_17, rfl⟩ ?_
  rw [bz_set_f (show 24 ≠ 23 by decide), bz_set_set (show 24 ≠ 23 by decide)]
  have hle2 := bz_pn_le (x := (lN tg)) hle1 4
  generalize bz_pn 1028 p1 (lN tg) 4 = p2 at hR hle2 ⊢
  have hI := hIg p2
  refine zk_aload_n (pc' := 21) hC rfl ⟨dX1_putSettings_20, rfl⟩ ?_
  refine zk_iload_n (pc' := 22) hC rfl ⟨dX1_putSettings_21, rfl⟩ ?_
  first | refine zk_i2lN (pc' := 23) hC ⟨dX1_putSettings_22, rfl⟩ (by omega) ?_ | refine zk_i2l (pc' := 23) hC ⟨dX1_putSettings_22, rfl⟩ ?_
  refine zk_iconst (pc' := 24) (x := nI 4) hC ⟨dX1_putSettings_23, rfl⟩ zc_iconst_4 ?_
  refine zk_callV0 (pc' := 27) hC ml_X1_56 mi_X0_putNumber (c_X0_putNumber X (bz_set I 23 24 p2) J bz_msg (q := 4) (lN mm) (nI 4) (Or.inl ⟨rfl, by decide⟩) bz_set_c hle2) (by decide) (by first | decide | assumption | omega) (by first | rfl | assumption) rfl rfl rfl (Nat.le_of_ble_eq_true rfl) ⟨dX1_putSettings_24, rfl⟩ ?_
  rw [bz_set_f (show 24 ≠ 23 by decide), bz_set_set (show 24 ≠ 23 by decide)]
  have hle3 := bz_pn_le (x := (lN mm)) hle2 4
  generalize bz_pn 1028 p2 (lN mm) 4 = p3 at hR hle3 ⊢
  have hI := hIg p3
  refine zk_aload_n (pc' := 28) hC rfl ⟨dX1_putSettings_27, rfl⟩ ?_
  refine zk_aload_n (pc' := 29) hC rfl ⟨dX1_putSettings_28, rfl⟩ ?_
  first | refine zk_getiN (pc' := 32) hC fl_X1_41 (by first | decide | assumption | omega) (by first | rfl | assumption) rfl (by first | assumption | (rw [zk_u_s]; rfl) | (rw [hI]; rfl)) ⟨dX1_putSettings_29, rfl⟩ ?_ | refine zk_geti (pc' := 32) hC fl_X1_41 (by first | decide | assumption | omega) (by first | rfl | assumption) rfl ⟨dX1_putSettings_29, rfl⟩ ?_
  first | refine zk_i2lN (pc' := 33) hC ⟨dX1_putSettings_32, rfl⟩ (by omega) ?_ | refine zk_i2l (pc' := 33) hC ⟨dX1_putSettings_32, rfl⟩ ?_
  refine zk_iconst (pc' := 34) (x := nI 4) hC ⟨dX1_putSettings_33, rfl⟩ zc_iconst_4 ?_
  refine zk_callV0 (pc' := 37) hC ml_X1_56 mi_X0_putNumber (c_X0_putNumber X (bz_set I 23 24 p3) J bz_msg (q := 4) (lN ps) (nI 4) (Or.inl ⟨rfl, by decide⟩) bz_set_c hle3) (by decide) (by first | decide | assumption | omega) (by first | rfl | assumption) rfl rfl rfl (Nat.le_of_ble_eq_true rfl) ⟨dX1_putSettings_34, rfl⟩ ?_
  rw [bz_set_f (show 24 ≠ 23 by decide), bz_set_set (show 24 ≠ 23 by decide)]
  have hle4 := bz_pn_le (x := (lN ps)) hle3 4
  generalize bz_pn 1028 p3 (lN ps) 4 = p4 at hR hle4 ⊢
  have hI := hIg p4
  refine zk_aload_n (pc' := 38) hC rfl ⟨dX1_putSettings_37, rfl⟩ ?_
  refine zk_ldc2 (pc' := 41) (x := 19) hC ⟨dX1_putSettings_38, rfl⟩ kl_X1_62 ?_
  refine zk_iconst (pc' := 42) (x := nI 4) hC ⟨dX1_putSettings_41, rfl⟩ zc_iconst_4 ?_
  refine zk_callV0 (pc' := 45) hC ml_X1_56 mi_X0_putNumber (c_X0_putNumber X (bz_set I 23 24 p4) J bz_msg (q := 4) 19 (nI 4) (Or.inl ⟨rfl, by decide⟩) bz_set_c hle4) (by decide) (by first | decide | assumption | omega) (by first | rfl | assumption) rfl rfl rfl (Nat.le_of_ble_eq_true rfl) ⟨dX1_putSettings_42, rfl⟩ ?_
  rw [bz_set_f (show 24 ≠ 23 by decide), bz_set_set (show 24 ≠ 23 by decide)]
  have hle5 := bz_pn_le (x := 19) hle4 4
  generalize bz_pn 1028 p4 19 4 = p5 at hR hle5 ⊢
  have hI := hIg p5
  refine zk_aload_n (pc' := 46) hC rfl ⟨dX1_putSettings_45, rfl⟩ ?_
  refine zk_aload_n (pc' := 47) hC rfl ⟨dX1_putSettings_46, rfl⟩ ?_
  first | refine zk_getiN (pc' := 50) hC fl_X1_34 (by first | decide | assumption | omega) (by first | rfl | assumption) rfl (by first | assumption | (rw [zk_u_s]; rfl) | (rw [hI]; rfl)) ⟨dX1_putSettings_47, rfl⟩ ?_ | refine zk_geti (pc' := 50) hC fl_X1_34 (by first | decide | assumption | omega) (by first | rfl | assumption) rfl ⟨dX1_putSettings_47, rfl⟩ ?_
  first | refine zk_i2lN (pc' := 51) hC ⟨dX1_putSettings_50, rfl⟩ (by omega) ?_ | refine zk_i2l (pc' := 51) hC ⟨dX1_putSettings_50, rfl⟩ ?_
  refine zk_iconst (pc' := 52) (x := nI 4) hC ⟨dX1_putSettings_51, rfl⟩ zc_iconst_4 ?_
  refine zk_callV0 (pc' := 55) hC ml_X1_56 mi_X0_putNumber (c_X0_putNumber X (bz_set I 23 24 p5) J bz_msg (q := 4) (lN kd) (nI 4) (Or.inl ⟨rfl, by decide⟩) bz_set_c hle5) (by decide) (by first | decide | assumption | omega) (by first | rfl | assumption) rfl rfl rfl (Nat.le_of_ble_eq_true rfl) ⟨dX1_putSettings_52, rfl⟩ ?_
  rw [bz_set_f (show 24 ≠ 23 by decide), bz_set_set (show 24 ≠ 23 by decide)]
  have hle6 := bz_pn_le (x := (lN kd)) hle5 4
  generalize bz_pn 1028 p5 (lN kd) 4 = p6 at hR hle6 ⊢
  exact zk_vret (pc' := 56) hC hR rfl rfl rfl ⟨dX1_putSettings_55, rfl⟩

set_option maxHeartbeats 1000000 in
set_option maxRecDepth 100000 in
theorem c_X1_lay (X : zk_X) (I : zk_I) (J : zk_J) {g0 : Nat → Int32} {kd ln ps tg lb sb dn pa sl la : Nat} (hI : I 30 = fl_g g0 kd ln ps tg lb sb dn pa sl la) {c l j : Nat} (hc : I 25 1 = nI c) (hcn : c ≤ 1024) (hlt : l * lb + j < 128) : zk_M 0 X yX1_lay cX1_lay 6 none (2, 46) [.ref (zk_ad X 30), .int (nI l), .int (nI j), .ref (zk_ad X 25)] I J none I (zk_u J (38 + (l * lb + j)) (fz_fill (J (38 + (l * lb + j))) (fun k => hz_wd (I 26) c (8 * k)) 128)) := by
  refine zk_M.intro (by decide) (lv := [some (.ref (zk_ad X 30)), some (.int (nI l)), some (.int (nI j)), some (.ref (zk_ad X 25)), none, none]) rfl rfl (fun E hC hR => ?_)
  obtain ⟨hr1, hr2⟩ := fl_row hlt
  refine zk_aload_n (pc' := 1) hC rfl ⟨dX1_lay_0, rfl⟩ ?_
  refine zk_iload_n (pc' := 2) hC rfl ⟨dX1_lay_1, rfl⟩ ?_
  refine zk_aload_n (pc' := 3) hC rfl ⟨dX1_lay_2, rfl⟩ ?_
  first | refine zk_getiN (pc' := 6) hC fl_X1_50 (by first | decide | assumption | omega) (by first | rfl | assumption) rfl (by first | assumption | (rw [zk_u_s]; rfl) | (rw [hI]; rfl)) ⟨dX1_lay_3, rfl⟩ ?_ | refine zk_geti (pc' := 6) hC fl_X1_50 (by first | decide | assumption | omega) (by first | rfl | assumption) rfl ⟨dX1_lay_3, rfl⟩ ?_
  first | refine zk_imulN (pc' := 7) hC ⟨dX1_lay_6, rfl⟩ ?_ | refine zk_imul (pc' := 7) hC ⟨dX1_lay_6, rfl⟩ ?_
  refine zk_iload_n (pc' := 8) hC rfl ⟨dX1_lay_7, rfl⟩ ?_
  first | refine zk_iaddN (pc' := 9) hC ⟨dX1_lay_8, rfl⟩ ?_ | refine zk_iadd (pc' := 9) hC ⟨dX1_lay_8, rfl⟩ ?_
  refine zk_callV1 (pc' := 12) hC ml_X1_68 mi_X1_blockOf (c_X1_blockOf X I J hlt) (by decide) (by first | decide | assumption | omega) (by first | rfl | assumption) rfl rfl rfl (Nat.le_of_ble_eq_true rfl) ⟨dX1_lay_9, rfl⟩ ?_
  refine zk_as4 (pc' := 14) hC ⟨dX1_lay_12, rfl⟩ rfl ?_
  refine zk_iconst (pc' := 15) (x := nI 0) hC ⟨dX1_lay_14, rfl⟩ zc_iconst_0 ?_
  refine zk_is5 (pc' := 17) hC ⟨dX1_lay_15, rfl⟩ rfl ?_
  generalize l * lb + j = bb at hlt hR hr1 hr2 ⊢
  refine zk_eqJ (J' := zk_u J (38 + bb) (fz_fill (J (38 + bb)) (fun k => hz_wd (I 26) c (8 * k)) 0)) (by rw [fz_0, zk_u_self]) ?_
  refine zk_up (P := fun k => zk_A 0 X E 17 [some (.ref (zk_ad X 30)), some (.int (nI l)), some (.int (nI j)), some (.ref (zk_ad X 25)), some (.ref (zk_ad X (38 + bb))), some (.int (nI k))] [] I (zk_u J (38 + bb) (fz_fill (J (38 + bb)) (fun k => hz_wd (I 26) c (8 * k)) k))) 128 ?_ (fun k hk ih => ?_)
  · skip
    refine zk_iload (pc' := 19) hC rfl ⟨dX1_lay_17, rfl⟩ ?_
    refine zk_sipush (pc' := 22) (x := nI 128) hC ⟨dX1_lay_19, rfl⟩ zc_sipush_128 ?_
    refine zk_icmp_geN (pc' := 25) hC ⟨dX1_lay_22, rfl⟩ 45 (by decide) (by omega) (by omega) (fun q => ?_) (fun q => ?_)
    · exact zk_vret (pc' := 46) hC hR rfl rfl rfl ⟨dX1_lay_45, rfl⟩
    · omega
  · skip
    refine zk_iload (pc' := 19) hC rfl ⟨dX1_lay_17, rfl⟩ ?_
    refine zk_sipush (pc' := 22) (x := nI 128) hC ⟨dX1_lay_19, rfl⟩ zc_sipush_128 ?_
    refine zk_icmp_geN (pc' := 25) hC ⟨dX1_lay_22, rfl⟩ 45 (by decide) (by omega) (by omega) (fun q => ?_) (fun q => ?_)
    · omega
    · refine zk_aload (pc' := 27) hC rfl ⟨dX1_lay_25, rfl⟩ ?_
      refine zk_iload (pc' := 29) hC rfl ⟨dX1_lay_27, rfl⟩ ?_
      refine zk_aload_n (pc' := 30) hC rfl ⟨dX1_lay_29, rfl⟩ ?_
      refine zk_bipush (pc' := 32) (x := nI 8) hC ⟨dX1_lay_30, rfl⟩ zc_bipush_8 ?_
      refine zk_iload (pc' := 34) hC rfl ⟨dX1_lay_32, rfl⟩ ?_
      first | refine zk_imulN (pc' := 35) hC ⟨dX1_lay_34, rfl⟩ ?_ | refine zk_imul (pc' := 35) hC ⟨dX1_lay_34, rfl⟩ ?_
      refine zk_callV1 (pc' := 38) hC ml_X1_72 mi_X0_wordAt (c_X0_wordAt X I _ bz_made hc hcn (s := 8 * k) (by omega)) (by decide) (by first | decide | assumption | omega) (by first | rfl | assumption) rfl rfl rfl (Nat.le_of_ble_eq_true rfl) ⟨dX1_lay_35, rfl⟩ ?_
      first | refine zk_lastU (pc' := 39) hC (by first | decide | assumption | omega) (by first | rfl | assumption) (by omega) (by first | decide | omega) ⟨dX1_lay_38, rfl⟩ ?_ | refine zk_lastN (pc' := 39) hC (by first | decide | assumption | omega) (by first | rfl | assumption) (by omega) (by first | decide | omega) ⟨dX1_lay_38, rfl⟩ ?_
      rw [fz_S _ _ k rfl]
      first | refine zk_in5 (pc' := 42) hC ⟨dX1_lay_39, rfl⟩ ?_ | refine zk_iincG (pc' := 42) hC ⟨dX1_lay_39, rfl⟩ rfl ?_
      refine zk_goto (pc' := 45) hC ⟨dX1_lay_42, rfl⟩ 17 (by decide) ?_
      exact ih

def fl_x (J : zk_J) (lb k : Nat) : Nat → Int64
  | 0 => lN 0
  | i + 1 => fl_x J lb k i ^^^ J (38 + ((1 + i) * lb - 1)) k
def fl_pl (J : zk_J) (lb ln : Nat) (p : Nat × (Nat → Int32)) : Nat → Nat × (Nat → Int32)
  | 0 => p
  | k + 1 => bz_pn 1028 (fl_pl J lb ln p k) (fl_x J lb k ln) 8
theorem fl_pl_le {J : zk_J} {lb ln : Nat} {p : Nat × (Nat → Int32)} (h : p.1 ≤ 1028) : ∀ k, (fl_pl J lb ln p k).1 ≤ 1028
  | 0 => h
  | k + 1 => bz_pn_le (fl_pl_le h k) 8
theorem fl_wd_in {J : zk_J} {nb b k : Nat} (hb : b < nb) (hn : nb ≤ 128) (hk : k < 128) : fl_wd J nb (nI b) (nI k) = J (38 + b) k := by
  unfold fl_wd
  rw [if_neg (nI_pos (by omega)), if_neg (nI_ge hb (by omega)), if_neg (nI_pos (by omega)), if_pos (nI_lt hk (by decide)), nI_clamp (by omega), nI_clamp (by omega)]

set_option maxHeartbeats 1000000 in
set_option maxRecDepth 100000 in
theorem c_X1_putLastBlocks (X : zk_X) (I : zk_I) (J : zk_J) {g0 : Nat → Int32} {kd ln ps tg lb sb dn pa sl la : Nat} (hI : I 30 = fl_g g0 kd ln ps tg lb sb dn pa sl la) {c : Nat} (hc : I 23 1 = nI c) (hcn : c ≤ 1028) (hnb : ln * lb ≤ 128) (hln : ln ≤ 4) (hlb : 1 ≤ lb) : zk_M 0 X yX1_putLastBlocks cX1_putLastBlocks 6 none (2, 45) [.ref (zk_ad X 30), .ref (zk_ad X 23)] I J none (bz_set I 23 24 (fl_pl J lb ln (c, I 24) 128)) J := by
  refine zk_M.intro (by decide) (lv := [some (.ref (zk_ad X 30)), some (.ref (zk_ad X 23)), none, none, none, none]) rfl rfl (fun E hC hR => ?_)
  have hIg : ∀ p, bz_set I 23 24 p 30 = fl_g g0 kd ln ps tg lb sb dn pa sl la := fun p => bz_set_g hI
  refine zk_eqI (I' := bz_set I 23 24 (c, I 24)) (bz_set_same hc).symm ?_
  refine zk_iconst (pc' := 1) (x := nI 0) hC ⟨dX1_putLastBlocks_0, rfl⟩ zc_iconst_0 ?_
  refine zk_is2 (pc' := 2) hC ⟨dX1_putLastBlocks_1, rfl⟩ rfl ?_
  refine zk_up (P := fun k => zk_A 0 X E 2 [some (.ref (zk_ad X 30)), some (.ref (zk_ad X 23)), some (.int (nI k)), none, none, none] [] (bz_set I 23 24 (fl_pl J lb ln (c, I 24) k)) J) 128 ?_ (fun k hk ih => ?_)
  · skip
    refine zk_iload_n (pc' := 3) hC rfl ⟨dX1_putLastBlocks_2, rfl⟩ ?_
    refine zk_sipush (pc' := 6) (x := nI 128) hC ⟨dX1_putLastBlocks_3, rfl⟩ zc_sipush_128 ?_
    refine zk_icmp_geN (pc' := 9) hC ⟨dX1_putLastBlocks_6, rfl⟩ 59 (by decide) (by omega) (by omega) (fun q => ?_) (fun q => ?_)
    · exact zk_vret (pc' := 60) hC hR rfl rfl rfl ⟨dX1_putLastBlocks_59, rfl⟩
    · omega
  · skip
    have hI := hIg (fl_pl J lb ln (c, I 24) k)
    refine zk_iload_n (pc' := 3) hC rfl ⟨dX1_putLastBlocks_2, rfl⟩ ?_
    refine zk_sipush (pc' := 6) (x := nI 128) hC ⟨dX1_putLastBlocks_3, rfl⟩ zc_sipush_128 ?_
    refine zk_icmp_geN (pc' := 9) hC ⟨dX1_putLastBlocks_6, rfl⟩ 59 (by decide) (by omega) (by omega) (fun q => ?_) (fun q => ?_)
    · omega
    · refine zk_lconst (pc' := 10) (x := lN 0) hC ⟨dX1_putLastBlocks_9, rfl⟩ rfl ?_
      refine zk_ls3 (pc' := 11) hC ⟨dX1_putLastBlocks_10, rfl⟩ rfl ?_
      refine zk_iconst (pc' := 12) (x := nI 1) hC ⟨dX1_putLastBlocks_11, rfl⟩ zc_iconst_1 ?_
      refine zk_is5 (pc' := 14) hC ⟨dX1_putLastBlocks_12, rfl⟩ rfl ?_
      refine zk_up (P := fun i => zk_A 0 X E 14 [some (.ref (zk_ad X 30)), some (.ref (zk_ad X 23)), some (.int (nI k)), some (.long (fl_x J lb k i)), none, some (.int (nI (1 + i)))] [] (bz_set I 23 24 (fl_pl J lb ln (c, I 24) k)) J) ln ?_ (fun i hi ihi => ?_)
      · skip
        refine zk_iload (pc' := 16) hC rfl ⟨dX1_putLastBlocks_14, rfl⟩ ?_
        refine zk_aload_n (pc' := 17) hC rfl ⟨dX1_putLastBlocks_16, rfl⟩ ?_
        first | refine zk_getiN (pc' := 20) hC fl_X1_38 (by first | decide | assumption | omega) (by first | rfl | assumption) rfl (by first | assumption | (rw [zk_u_s]; rfl) | (rw [hI]; rfl)) ⟨dX1_putLastBlocks_17, rfl⟩ ?_ | refine zk_geti (pc' := 20) hC fl_X1_38 (by first | decide | assumption | omega) (by first | rfl | assumption) rfl ⟨dX1_putLastBlocks_17, rfl⟩ ?_
        refine zk_icmp_gtN (pc' := 23) hC ⟨dX1_putLastBlocks_20, rfl⟩ 46 (by decide) (by omega) (by omega) (fun q2 => ?_) (fun q2 => ?_)
        · refine zk_aload_n (pc' := 47) hC rfl ⟨dX1_putLastBlocks_46, rfl⟩ ?_
          refine zk_lload_n (pc' := 48) hC rfl ⟨dX1_putLastBlocks_47, rfl⟩ ?_
          refine zk_bipush (pc' := 50) (x := nI 8) hC ⟨dX1_putLastBlocks_48, rfl⟩ zc_bipush_8 ?_
          refine zk_callV0 (pc' := 53) hC ml_X1_56 mi_X0_putNumber (c_X0_putNumber X (bz_set I 23 24 (fl_pl J lb ln (c, I 24) k)) J bz_msg (q := 8) (fl_x J lb k ln) (nI 8) (Or.inl ⟨rfl, by decide⟩) bz_set_c (fl_pl_le hcn k)) (by decide) (by first | decide | assumption | omega) (by first | rfl | assumption) rfl rfl rfl (Nat.le_of_ble_eq_true rfl) ⟨dX1_putLastBlocks_50, rfl⟩ ?_
          refine zk_eqI (I' := bz_set I 23 24 (fl_pl J lb ln (c, I 24) (k + 1))) (by rw [bz_set_f (by decide), bz_set_set (by decide)]; rfl) ?_
          refine zk_fg3 ?_
          refine zk_fg5 ?_
          first | refine zk_in2 (pc' := 56) hC ⟨dX1_putLastBlocks_53, rfl⟩ ?_ | refine zk_iincG (pc' := 56) hC ⟨dX1_putLastBlocks_53, rfl⟩ rfl ?_
          refine zk_goto (pc' := 59) hC ⟨dX1_putLastBlocks_56, rfl⟩ 2 (by decide) ?_
          exact ih
        · omega
      · skip
        have hmul : (1 + i) * lb ≤ ln * lb := Nat.mul_le_mul_right lb (by omega)
        have hmul1 : lb ≤ (1 + i) * lb := Nat.le_mul_of_pos_left lb (by omega)
        refine zk_iload (pc' := 16) hC rfl ⟨dX1_putLastBlocks_14, rfl⟩ ?_
        refine zk_aload_n (pc' := 17) hC rfl ⟨dX1_putLastBlocks_16, rfl⟩ ?_
        first | refine zk_getiN (pc' := 20) hC fl_X1_38 (by first | decide | assumption | omega) (by first | rfl | assumption) rfl (by first | assumption | (rw [zk_u_s]; rfl) | (rw [hI]; rfl)) ⟨dX1_putLastBlocks_17, rfl⟩ ?_ | refine zk_geti (pc' := 20) hC fl_X1_38 (by first | decide | assumption | omega) (by first | rfl | assumption) rfl ⟨dX1_putLastBlocks_17, rfl⟩ ?_
        refine zk_icmp_gtN (pc' := 23) hC ⟨dX1_putLastBlocks_20, rfl⟩ 46 (by decide) (by omega) (by omega) (fun q2 => ?_) (fun q2 => ?_)
        · omega
        · refine zk_lload_n (pc' := 24) hC rfl ⟨dX1_putLastBlocks_23, rfl⟩ ?_
          refine zk_aload_n (pc' := 25) hC rfl ⟨dX1_putLastBlocks_24, rfl⟩ ?_
          refine zk_iload (pc' := 27) hC rfl ⟨dX1_putLastBlocks_25, rfl⟩ ?_
          refine zk_aload_n (pc' := 28) hC rfl ⟨dX1_putLastBlocks_27, rfl⟩ ?_
          first | refine zk_getiN (pc' := 31) hC fl_X1_50 (by first | decide | assumption | omega) (by first | rfl | assumption) rfl (by first | assumption | (rw [zk_u_s]; rfl) | (rw [hI]; rfl)) ⟨dX1_putLastBlocks_28, rfl⟩ ?_ | refine zk_geti (pc' := 31) hC fl_X1_50 (by first | decide | assumption | omega) (by first | rfl | assumption) rfl ⟨dX1_putLastBlocks_28, rfl⟩ ?_
          first | refine zk_imulN (pc' := 32) hC ⟨dX1_putLastBlocks_31, rfl⟩ ?_ | refine zk_imul (pc' := 32) hC ⟨dX1_putLastBlocks_31, rfl⟩ ?_
          refine zk_iconst (pc' := 33) (x := nI 1) hC ⟨dX1_putLastBlocks_32, rfl⟩ zc_iconst_1 ?_
          first | refine zk_isubN (pc' := 34) hC ⟨dX1_putLastBlocks_33, rfl⟩ (by omega) ?_ | refine zk_isub (pc' := 34) hC ⟨dX1_putLastBlocks_33, rfl⟩ ?_
          refine zk_iload_n (pc' := 35) hC rfl ⟨dX1_putLastBlocks_34, rfl⟩ ?_
          refine zk_callV1 (pc' := 38) hC ml_X1_76 mi_X1_wordOf (c_X1_wordOf X _ J hI hnb (nI ((1 + i) * lb - 1)) (nI k)) (by decide) (by first | decide | assumption | omega) (by first | rfl | assumption) rfl rfl rfl (Nat.le_of_ble_eq_true rfl) ⟨dX1_putLastBlocks_35, rfl⟩ ?_
          rw [fl_wd_in (by omega) hnb hk]
          refine zk_lxor (pc' := 39) hC ⟨dX1_putLastBlocks_38, rfl⟩ ?_
          refine zk_ls3 (pc' := 40) hC ⟨dX1_putLastBlocks_39, rfl⟩ rfl ?_
          first | refine zk_in5 (pc' := 43) hC ⟨dX1_putLastBlocks_40, rfl⟩ ?_ | refine zk_iincG (pc' := 43) hC ⟨dX1_putLastBlocks_40, rfl⟩ rfl ?_
          refine zk_goto (pc' := 46) hC ⟨dX1_putLastBlocks_43, rfl⟩ 14 (by decide) ?_
          exact ihi

def fl_nn (x : Int64) : Nat := x.toBitVec.toNat
theorem fl_nn_lt (x : Int64) : fl_nn x < 2 ^ 64 := x.toBitVec.isLt
theorem fl_nn_eq (x : Int64) : x = lN (fl_nn x) := wb_inj (by rw [wb_tb]; simp [fl_nn])
def fl_fla (ln pa sl la nn : Nat) : Nat := if (pa = 0 ∧ sl = 0) ∨ ln < 2 then la else nn / 2 ^ 32 % ln
def fl_fin (pa sl sb lb : Nat) : Nat := if pa = 0 then sl * sb else lb - sb
def fl_u (fla la fin i : Nat) : Nat := if fla = la then fin + i - 1 else fin - (if i = 0 then 1 else 0)
def fl_xx (nn : Nat) : Nat := nn % 2 ^ 32 * (nn % 2 ^ 32) / 2 ^ 32
def fl_y (u nn : Nat) : Nat := u - 1 - u * fl_xx nn / 2 ^ 32
def fl_first (pa sl sb : Nat) : Nat := if pa = 0 ∨ sl = 3 then 0 else (sl + 1) * sb
def fl_wrap (a lb : Nat) : Nat := if a < lb then a else a - lb
def fl_far (ln lb sb pa sl la i nn : Nat) : Nat := fl_fla ln pa sl la nn * lb + fl_wrap (fl_first pa sl sb + fl_y (fl_u (fl_fla ln pa sl la nn) la (fl_fin pa sl sb lb) i) nn) lb
/-- what holds of a filling in a segment, at place i of its slice -/
abbrev fl_ok (ln lb sb pa sl la i : Nat) : Prop := 1 ≤ ln ∧ ln ≤ 4 ∧ lb = 4 * sb ∧ 2 ≤ sb ∧ sb ≤ 32 ∧ la < ln ∧ sl < 4 ∧ pa ≤ 4 ∧ i < sb ∧ (pa = 0 ∧ sl = 0 → 2 ≤ i) ∧ ln * lb ≤ 128
theorem fl_jj (n : Nat) : n % 2 ^ 32 * (n % 2 ^ 32) < 2 ^ 64 := by
  have h : n % 2 ^ 32 < 2 ^ 32 := Nat.mod_lt _ (by decide)
  calc n % 2 ^ 32 * (n % 2 ^ 32) < 2 ^ 32 * 2 ^ 32 := Nat.mul_lt_mul'' h h
    _ = 2 ^ 64 := by decide
theorem fl_xx_lt (n : Nat) : fl_xx n < 2 ^ 32 := by have := fl_jj n; unfold fl_xx; omega
theorem fl_ux {u n : Nat} (hu : 1 ≤ u) : u * fl_xx n / 2 ^ 32 ≤ u - 1 := by
  have h : u * fl_xx n < u * 2 ^ 32 := Nat.mul_lt_mul_of_pos_left (fl_xx_lt n) hu
  have := Nat.div_lt_of_lt_mul (m := u * fl_xx n) (n := 2 ^ 32) (k := u) (by rw [Nat.mul_comm (2 ^ 32)]; exact h)
  omega
theorem fl_fin_b {ln lb sb pa sl la i : Nat} (h : fl_ok ln lb sb pa sl la i) : fl_fin pa sl sb lb ≤ 3 * sb ∧ (pa = 0 ∧ sl = 0 ∨ sb ≤ fl_fin pa sl sb lb) := by
  obtain ⟨h1, h2, h3, h4, h5, h6, h7, h8, h9, h10, h11⟩ := h
  unfold fl_fin
  by_cases hp : pa = 0
  · rw [if_pos hp]
    refine ⟨Nat.mul_le_mul_right sb (by omega), ?_⟩
    by_cases hs : sl = 0
    · exact Or.inl ⟨hp, hs⟩
    · exact Or.inr (Nat.le_mul_of_pos_left sb (by omega))
  · rw [if_neg hp]; omega
theorem fl_fla_lt {ln lb sb pa sl la i : Nat} (nn : Nat) (h : fl_ok ln lb sb pa sl la i) : fl_fla ln pa sl la nn < ln := by
  unfold fl_fla; split
  · exact h.2.2.2.2.2.1
  · exact Nat.mod_lt _ (by have := h.1; omega)
theorem fl_u_b {ln lb sb pa sl la i : Nat} (nn : Nat) (h : fl_ok ln lb sb pa sl la i) : 1 ≤ fl_u (fl_fla ln pa sl la nn) la (fl_fin pa sl sb lb) i ∧ fl_u (fl_fla ln pa sl la nn) la (fl_fin pa sl sb lb) i ≤ 4 * sb - 1 := by
  have hf := fl_fin_b h
  obtain ⟨h1, h2, h3, h4, h5, h6, h7, h8, h9, h10, h11⟩ := h
  unfold fl_u
  by_cases hl : fl_fla ln pa sl la nn = la
  · rw [if_pos hl]; omega
  · rw [if_neg hl]
    have hne : ¬ (pa = 0 ∧ sl = 0) := fun e => hl (by unfold fl_fla; rw [if_pos (Or.inl e)])
    split <;> omega
theorem fl_first_b {ln lb sb pa sl la i : Nat} (h : fl_ok ln lb sb pa sl la i) : fl_first pa sl sb ≤ 3 * sb := by
  obtain ⟨h1, h2, h3, h4, h5, h6, h7, h8, h9, h10, h11⟩ := h
  unfold fl_first; split
  · omega
  · exact Nat.mul_le_mul_right sb (by omega)
theorem fl_far_lt {ln lb sb pa sl la i : Nat} (nn : Nat) (h : fl_ok ln lb sb pa sl la i) : fl_far ln lb sb pa sl la i nn < ln * lb := by
  have h0 := fl_fla_lt nn h
  have hu := fl_u_b nn h
  have hfi := fl_first_b h
  obtain ⟨h1, h2, h3, h4, h5, h6, h7, h8, h9, h10, h11⟩ := h
  unfold fl_far
  have hm : (fl_fla ln pa sl la nn + 1) * lb ≤ ln * lb := Nat.mul_le_mul_right lb h0
  have hy : fl_y (fl_u (fl_fla ln pa sl la nn) la (fl_fin pa sl sb lb) i) nn ≤ 4 * sb - 2 := by unfold fl_y; omega
  have hw : fl_wrap (fl_first pa sl sb + fl_y (fl_u (fl_fla ln pa sl la nn) la (fl_fin pa sl sb lb) i) nn) lb < lb := by unfold fl_wrap; split <;> omega
  rw [Nat.add_mul, Nat.one_mul] at hm
  omega

set_option maxHeartbeats 1000000 in
set_option maxRecDepth 100000 in
theorem c_X1_farBlock (X : zk_X) (I : zk_I) (J : zk_J) {g0 : Nat → Int32} {kd ln ps tg lb sb dn pa sl la : Nat} (hI : I 30 = fl_g g0 kd ln ps tg lb sb dn pa sl la) {i : Nat} (x : Int64) (hok : fl_ok ln lb sb pa sl la i) : zk_M 0 X yX1_farBlock cX1_farBlock 15 ((some .int)) (1, 20) [.ref (zk_ad X 30), .int (nI i), .long x] I J (some (.int (nI (fl_far ln lb sb pa sl la i (fl_nn x))))) I J := by
  refine zk_M.intro (by decide) (lv := [some (.ref (zk_ad X 30)), some (.int (nI i)), some (.long x), none, none, none, none, none, none, none, none, none, none, none, none]) rfl rfl (fun E hC hR => ?_)
  have hnn := fl_nn_lt x
  rw [fl_nn_eq x]
  have hfl := fl_fla_lt (fl_nn x) hok
  have hub := fl_u_b (fl_nn x) hok
  have hfin := fl_fin_b hok
  have hfst := fl_first_b hok
  have hjj := fl_jj (fl_nn x)
  have hxx := fl_xx_lt (fl_nn x)
  obtain ⟨h1, h2, h3, h4, h5, h6, h7, h8, h9, h10, h11⟩ := id hok
  unfold fl_far at hR
  have hfla : fl_fla ln pa sl la (fl_nn x) = if (pa = 0 ∧ sl = 0) ∨ ln < 2 then la else fl_nn x / 2 ^ 32 % ln := rfl
  have hfi : fl_fin pa sl sb lb = if pa = 0 then sl * sb else lb - sb := rfl
  have hui : fl_u (fl_fla ln pa sl la (fl_nn x)) la (fl_fin pa sl sb lb) i = if fl_fla ln pa sl la (fl_nn x) = la then fl_fin pa sl sb lb + i - 1 else fl_fin pa sl sb lb - (if i = 0 then 1 else 0) := rfl
  have hne : ¬ fl_fla ln pa sl la (fl_nn x) = la → ¬ (pa = 0 ∧ sl = 0) := fun hl e => hl (by rw [hfla, if_pos (Or.inl e)])
  have hmlb : fl_fla ln pa sl la (fl_nn x) * lb ≤ ln * lb := Nat.mul_le_mul_right lb (by omega)
  have hslb : sl * sb ≤ 3 * sb := Nat.mul_le_mul_right sb (by omega)
  generalize fl_u (fl_fla ln pa sl la (fl_nn x)) la (fl_fin pa sl sb lb) i = u at hR hub hui
  generalize fl_fla ln pa sl la (fl_nn x) = fla at hR hfl hfla hui hne hmlb
  generalize fl_fin pa sl sb lb = fin at hR hfin hfi hui
  have hux := fl_ux (u := u) (n := fl_nn x) hub.1
  have hyd : fl_y u (fl_nn x) = u - 1 - u * fl_xx (fl_nn x) / 2 ^ 32 := rfl
  have hxd : fl_xx (fl_nn x) = fl_nn x % 2 ^ 32 * (fl_nn x % 2 ^ 32) / 2 ^ 32 := rfl
  have hum : u * fl_xx (fl_nn x) < 2 ^ 64 := by
    have : u * fl_xx (fl_nn x) ≤ 128 * 2 ^ 32 := Nat.mul_le_mul (by omega) (Nat.le_of_lt hxx)
    omega
  generalize fl_nn x = nn at hR hnn hjj hxx hux hyd hxd hum hfla ⊢
  generalize hY : fl_y u nn = y at hR hyd
  generalize hXX : fl_xx nn = xx at hxx hux hyd hxd hum
  have hfsd : fl_first pa sl sb = if pa = 0 ∨ sl = 3 then 0 else (sl + 1) * sb := rfl
  generalize fl_first pa sl sb = fst at hR hfst hfsd
  suffices h33 : zk_A 0 X E 33 [some (.ref (zk_ad X 30)), some (.int (nI i)), some (.long (lN nn)), none, none, none, none, none, none, none, none, none, none, none, none] [.int (nI fla)] I J by
    refine zk_aload_n (pc' := 1) hC rfl ⟨dX1_farBlock_0, rfl⟩ ?_
    refine zk_callV1 (pc' := 4) hC ml_X1_103 mi_X1_isFirstSlice (c_X1_isFirstSlice X I J hI (by omega) (by omega)) (by decide) (by first | decide | assumption | omega) (by first | rfl | assumption) rfl rfl rfl (Nat.le_of_ble_eq_true rfl) ⟨dX1_farBlock_1, rfl⟩ ?_
    by_cases hfs : pa = 0 ∧ sl = 0
    · skip
      rw [if_pos hfs]
      refine zk_if_neN (pc' := 7) hC ⟨dX1_farBlock_4, rfl⟩ 15 (by decide) (by omega) (fun q => ?_) (fun q => ?_)
      · refine zk_aload_n (pc' := 16) hC rfl ⟨dX1_farBlock_15, rfl⟩ ?_
        first | refine zk_getiN (pc' := 19) hC fl_X1_83 (by first | decide | assumption | omega) (by first | rfl | assumption) rfl (by first | assumption | (rw [zk_u_s]; rfl) | (rw [hI]; rfl)) ⟨dX1_farBlock_16, rfl⟩ ?_ | refine zk_geti (pc' := 19) hC fl_X1_83 (by first | decide | assumption | omega) (by first | rfl | assumption) rfl ⟨dX1_farBlock_16, rfl⟩ ?_
        refine zk_goto (pc' := 22) hC ⟨dX1_farBlock_19, rfl⟩ 33 (by decide) ?_
        rw [hfla, if_pos (Or.inl hfs)] at h33
        exact h33
      · omega
    · skip
      rw [if_neg hfs]
      refine zk_if_neN (pc' := 7) hC ⟨dX1_farBlock_4, rfl⟩ 15 (by decide) (by omega) (fun q => ?_) (fun q => ?_)
      · omega
      · refine zk_aload_n (pc' := 8) hC rfl ⟨dX1_farBlock_7, rfl⟩ ?_
        first | refine zk_getiN (pc' := 11) hC fl_X1_38 (by first | decide | assumption | omega) (by first | rfl | assumption) rfl (by first | assumption | (rw [zk_u_s]; rfl) | (rw [hI]; rfl)) ⟨dX1_farBlock_8, rfl⟩ ?_ | refine zk_geti (pc' := 11) hC fl_X1_38 (by first | decide | assumption | omega) (by first | rfl | assumption) rfl ⟨dX1_farBlock_8, rfl⟩ ?_
        refine zk_iconst (pc' := 12) (x := nI 2) hC ⟨dX1_farBlock_11, rfl⟩ zc_iconst_2 ?_
        refine zk_icmp_geN (pc' := 15) hC ⟨dX1_farBlock_12, rfl⟩ 22 (by decide) (by omega) (by omega) (fun q2 => ?_) (fun q2 => ?_)
        · refine zk_lload_n (pc' := 23) hC rfl ⟨dX1_farBlock_22, rfl⟩ ?_
          refine zk_bipush (pc' := 25) (x := nI 32) hC ⟨dX1_farBlock_23, rfl⟩ zc_bipush_32 ?_
          first | refine zk_lushrN (pc' := 26) hC ⟨dX1_farBlock_25, rfl⟩ (by omega) (by decide) ?_ | refine zk_lushr (pc' := 26) hC ⟨dX1_farBlock_25, rfl⟩ ?_
          refine zk_aload_n (pc' := 27) hC rfl ⟨dX1_farBlock_26, rfl⟩ ?_
          first | refine zk_getiN (pc' := 30) hC fl_X1_38 (by first | decide | assumption | omega) (by first | rfl | assumption) rfl (by first | assumption | (rw [zk_u_s]; rfl) | (rw [hI]; rfl)) ⟨dX1_farBlock_27, rfl⟩ ?_ | refine zk_geti (pc' := 30) hC fl_X1_38 (by first | decide | assumption | omega) (by first | rfl | assumption) rfl ⟨dX1_farBlock_27, rfl⟩ ?_
          first | refine zk_i2lN (pc' := 31) hC ⟨dX1_farBlock_30, rfl⟩ (by omega) ?_ | refine zk_i2l (pc' := 31) hC ⟨dX1_farBlock_30, rfl⟩ ?_
          refine zk_lremN (pc' := 32) hC ⟨dX1_farBlock_31, rfl⟩ (by omega) (by omega) (by omega) ?_
          first | refine zk_l2iN (pc' := 33) hC ⟨dX1_farBlock_32, rfl⟩ ?_ | refine zk_l2i (pc' := 33) hC ⟨dX1_farBlock_32, rfl⟩ ?_
          rw [hfla, if_neg (by omega)] at h33
          exact h33
        · refine zk_aload_n (pc' := 16) hC rfl ⟨dX1_farBlock_15, rfl⟩ ?_
          first | refine zk_getiN (pc' := 19) hC fl_X1_83 (by first | decide | assumption | omega) (by first | rfl | assumption) rfl (by first | assumption | (rw [zk_u_s]; rfl) | (rw [hI]; rfl)) ⟨dX1_farBlock_16, rfl⟩ ?_ | refine zk_geti (pc' := 19) hC fl_X1_83 (by first | decide | assumption | omega) (by first | rfl | assumption) rfl ⟨dX1_farBlock_16, rfl⟩ ?_
          refine zk_goto (pc' := 22) hC ⟨dX1_farBlock_19, rfl⟩ 33 (by decide) ?_
          rw [hfla, if_pos (Or.inr (by omega))] at h33
          exact h33
  refine zk_is4 (pc' := 35) hC ⟨dX1_farBlock_33, rfl⟩ rfl ?_
  suffices h63 : zk_A 0 X E 63 [some (.ref (zk_ad X 30)), some (.int (nI i)), some (.long (lN nn)), none, some (.int (nI fla)), none, none, none, none, none, none, none, none, none, none] [.int (nI fin)] I J by
    refine zk_aload_n (pc' := 36) hC rfl ⟨dX1_farBlock_35, rfl⟩ ?_
    first | refine zk_getiN (pc' := 39) hC fl_X1_89 (by first | decide | assumption | omega) (by first | rfl | assumption) rfl (by first | assumption | (rw [zk_u_s]; rfl) | (rw [hI]; rfl)) ⟨dX1_farBlock_36, rfl⟩ ?_ | refine zk_geti (pc' := 39) hC fl_X1_89 (by first | decide | assumption | omega) (by first | rfl | assumption) rfl ⟨dX1_farBlock_36, rfl⟩ ?_
    refine zk_if_neN (pc' := 42) hC ⟨dX1_farBlock_39, rfl⟩ 54 (by decide) (by omega) (fun q => ?_) (fun q => ?_)
    · refine zk_aload_n (pc' := 55) hC rfl ⟨dX1_farBlock_54, rfl⟩ ?_
      first | refine zk_getiN (pc' := 58) hC fl_X1_50 (by first | decide | assumption | omega) (by first | rfl | assumption) rfl (by first | assumption | (rw [zk_u_s]; rfl) | (rw [hI]; rfl)) ⟨dX1_farBlock_55, rfl⟩ ?_ | refine zk_geti (pc' := 58) hC fl_X1_50 (by first | decide | assumption | omega) (by first | rfl | assumption) rfl ⟨dX1_farBlock_55, rfl⟩ ?_
      refine zk_aload_n (pc' := 59) hC rfl ⟨dX1_farBlock_58, rfl⟩ ?_
      first | refine zk_getiN (pc' := 62) hC fl_X1_47 (by first | decide | assumption | omega) (by first | rfl | assumption) rfl (by first | assumption | (rw [zk_u_s]; rfl) | (rw [hI]; rfl)) ⟨dX1_farBlock_59, rfl⟩ ?_ | refine zk_geti (pc' := 62) hC fl_X1_47 (by first | decide | assumption | omega) (by first | rfl | assumption) rfl ⟨dX1_farBlock_59, rfl⟩ ?_
      first | refine zk_isubN (pc' := 63) hC ⟨dX1_farBlock_62, rfl⟩ (by omega) ?_ | refine zk_isub (pc' := 63) hC ⟨dX1_farBlock_62, rfl⟩ ?_
      rw [hfi, if_neg q] at h63
      exact h63
    · refine zk_aload_n (pc' := 43) hC rfl ⟨dX1_farBlock_42, rfl⟩ ?_
      first | refine zk_getiN (pc' := 46) hC fl_X1_86 (by first | decide | assumption | omega) (by first | rfl | assumption) rfl (by first | assumption | (rw [zk_u_s]; rfl) | (rw [hI]; rfl)) ⟨dX1_farBlock_43, rfl⟩ ?_ | refine zk_geti (pc' := 46) hC fl_X1_86 (by first | decide | assumption | omega) (by first | rfl | assumption) rfl ⟨dX1_farBlock_43, rfl⟩ ?_
      refine zk_aload_n (pc' := 47) hC rfl ⟨dX1_farBlock_46, rfl⟩ ?_
      first | refine zk_getiN (pc' := 50) hC fl_X1_47 (by first | decide | assumption | omega) (by first | rfl | assumption) rfl (by first | assumption | (rw [zk_u_s]; rfl) | (rw [hI]; rfl)) ⟨dX1_farBlock_47, rfl⟩ ?_ | refine zk_geti (pc' := 50) hC fl_X1_47 (by first | decide | assumption | omega) (by first | rfl | assumption) rfl ⟨dX1_farBlock_47, rfl⟩ ?_
      first | refine zk_imulN (pc' := 51) hC ⟨dX1_farBlock_50, rfl⟩ ?_ | refine zk_imul (pc' := 51) hC ⟨dX1_farBlock_50, rfl⟩ ?_
      refine zk_goto (pc' := 54) hC ⟨dX1_farBlock_51, rfl⟩ 63 (by decide) ?_
      rw [hfi, if_pos q] at h63
      exact h63
  refine zk_is5 (pc' := 65) hC ⟨dX1_farBlock_63, rfl⟩ rfl ?_
  suffices h98 : zk_A 0 X E 98 [some (.ref (zk_ad X 30)), some (.int (nI i)), some (.long (lN nn)), none, some (.int (nI fla)), some (.int (nI fin)), some (.long (lN u)), none, none, none, none, none, none, none, none] [] I J by
    refine zk_iload (pc' := 67) hC rfl ⟨dX1_farBlock_65, rfl⟩ ?_
    refine zk_iload_n (pc' := 68) hC rfl ⟨dX1_farBlock_67, rfl⟩ ?_
    refine zk_if_neN (pc' := 71) hC ⟨dX1_farBlock_68, rfl⟩ 75 (by decide) (by omega) (fun q => ?_) (fun q => ?_)
    · refine zk_iconst (pc' := 76) (x := nI 0) hC ⟨dX1_farBlock_75, rfl⟩ zc_iconst_0 ?_
      first | refine zk_isubN (pc' := 77) hC ⟨dX1_farBlock_76, rfl⟩ (by omega) ?_ | refine zk_isub (pc' := 77) hC ⟨dX1_farBlock_76, rfl⟩ ?_
      first | refine zk_i2lN (pc' := 78) hC ⟨dX1_farBlock_77, rfl⟩ (by omega) ?_ | refine zk_i2l (pc' := 78) hC ⟨dX1_farBlock_77, rfl⟩ ?_
      refine zk_ls6 (pc' := 80) hC ⟨dX1_farBlock_78, rfl⟩ rfl ?_
      refine zk_iload (pc' := 82) hC rfl ⟨dX1_farBlock_80, rfl⟩ ?_
      refine zk_aload_n (pc' := 83) hC rfl ⟨dX1_farBlock_82, rfl⟩ ?_
      first | refine zk_getiN (pc' := 86) hC fl_X1_83 (by first | decide | assumption | omega) (by first | rfl | assumption) rfl (by first | assumption | (rw [zk_u_s]; rfl) | (rw [hI]; rfl)) ⟨dX1_farBlock_83, rfl⟩ ?_ | refine zk_geti (pc' := 86) hC fl_X1_83 (by first | decide | assumption | omega) (by first | rfl | assumption) rfl ⟨dX1_farBlock_83, rfl⟩ ?_
      refine zk_icmp_neN (pc' := 89) hC ⟨dX1_farBlock_86, rfl⟩ 98 (by decide) (by omega) (by omega) (fun q2 => ?_) (fun q2 => ?_)
      · rw [hui, if_neg q2, if_neg q] at h98
        exact h98
      · refine zk_iload (pc' := 91) hC rfl ⟨dX1_farBlock_89, rfl⟩ ?_
        refine zk_iload_n (pc' := 92) hC rfl ⟨dX1_farBlock_91, rfl⟩ ?_
        first | refine zk_iaddN (pc' := 93) hC ⟨dX1_farBlock_92, rfl⟩ ?_ | refine zk_iadd (pc' := 93) hC ⟨dX1_farBlock_92, rfl⟩ ?_
        refine zk_iconst (pc' := 94) (x := nI 1) hC ⟨dX1_farBlock_93, rfl⟩ zc_iconst_1 ?_
        first | refine zk_isubN (pc' := 95) hC ⟨dX1_farBlock_94, rfl⟩ (by omega) ?_ | refine zk_isub (pc' := 95) hC ⟨dX1_farBlock_94, rfl⟩ ?_
        first | refine zk_i2lN (pc' := 96) hC ⟨dX1_farBlock_95, rfl⟩ (by omega) ?_ | refine zk_i2l (pc' := 96) hC ⟨dX1_farBlock_95, rfl⟩ ?_
        refine zk_ls6 (pc' := 98) hC ⟨dX1_farBlock_96, rfl⟩ rfl ?_
        rw [hui, if_pos q2] at h98
        exact h98
    · by_cases hl2 : fla = la
      · skip
        refine zk_iconst (pc' := 72) (x := nI 1) hC ⟨dX1_farBlock_71, rfl⟩ zc_iconst_1 ?_
        refine zk_goto (pc' := 75) hC ⟨dX1_farBlock_72, rfl⟩ 76 (by decide) ?_
        first | refine zk_isubN (pc' := 77) hC ⟨dX1_farBlock_76, rfl⟩ (by omega) ?_ | refine zk_isub (pc' := 77) hC ⟨dX1_farBlock_76, rfl⟩ ?_
        first | refine zk_i2lN (pc' := 78) hC ⟨dX1_farBlock_77, rfl⟩ (by omega) ?_ | refine zk_i2l (pc' := 78) hC ⟨dX1_farBlock_77, rfl⟩ ?_
        refine zk_ls6 (pc' := 80) hC ⟨dX1_farBlock_78, rfl⟩ rfl ?_
        refine zk_iload (pc' := 82) hC rfl ⟨dX1_farBlock_80, rfl⟩ ?_
        refine zk_aload_n (pc' := 83) hC rfl ⟨dX1_farBlock_82, rfl⟩ ?_
        first | refine zk_getiN (pc' := 86) hC fl_X1_83 (by first | decide | assumption | omega) (by first | rfl | assumption) rfl (by first | assumption | (rw [zk_u_s]; rfl) | (rw [hI]; rfl)) ⟨dX1_farBlock_83, rfl⟩ ?_ | refine zk_geti (pc' := 86) hC fl_X1_83 (by first | decide | assumption | omega) (by first | rfl | assumption) rfl ⟨dX1_farBlock_83, rfl⟩ ?_
        refine zk_icmp_neN (pc' := 89) hC ⟨dX1_farBlock_86, rfl⟩ 98 (by decide) (by omega) (by omega) (fun q2 => ?_) (fun q2 => ?_)
        · omega
        · refine zk_iload (pc' := 91) hC rfl ⟨dX1_farBlock_89, rfl⟩ ?_
          refine zk_iload_n (pc' := 92) hC rfl ⟨dX1_farBlock_91, rfl⟩ ?_
          first | refine zk_iaddN (pc' := 93) hC ⟨dX1_farBlock_92, rfl⟩ ?_ | refine zk_iadd (pc' := 93) hC ⟨dX1_farBlock_92, rfl⟩ ?_
          refine zk_iconst (pc' := 94) (x := nI 1) hC ⟨dX1_farBlock_93, rfl⟩ zc_iconst_1 ?_
          first | refine zk_isubN (pc' := 95) hC ⟨dX1_farBlock_94, rfl⟩ (by omega) ?_ | refine zk_isub (pc' := 95) hC ⟨dX1_farBlock_94, rfl⟩ ?_
          first | refine zk_i2lN (pc' := 96) hC ⟨dX1_farBlock_95, rfl⟩ (by omega) ?_ | refine zk_i2l (pc' := 96) hC ⟨dX1_farBlock_95, rfl⟩ ?_
          refine zk_ls6 (pc' := 98) hC ⟨dX1_farBlock_96, rfl⟩ rfl ?_
          rw [hui, if_pos hl2] at h98
          exact h98
      · skip
        have hne2 := hne hl2
        refine zk_iconst (pc' := 72) (x := nI 1) hC ⟨dX1_farBlock_71, rfl⟩ zc_iconst_1 ?_
        refine zk_goto (pc' := 75) hC ⟨dX1_farBlock_72, rfl⟩ 76 (by decide) ?_
        first | refine zk_isubN (pc' := 77) hC ⟨dX1_farBlock_76, rfl⟩ (by omega) ?_ | refine zk_isub (pc' := 77) hC ⟨dX1_farBlock_76, rfl⟩ ?_
        first | refine zk_i2lN (pc' := 78) hC ⟨dX1_farBlock_77, rfl⟩ (by omega) ?_ | refine zk_i2l (pc' := 78) hC ⟨dX1_farBlock_77, rfl⟩ ?_
        refine zk_ls6 (pc' := 80) hC ⟨dX1_farBlock_78, rfl⟩ rfl ?_
        refine zk_iload (pc' := 82) hC rfl ⟨dX1_farBlock_80, rfl⟩ ?_
        refine zk_aload_n (pc' := 83) hC rfl ⟨dX1_farBlock_82, rfl⟩ ?_
        first | refine zk_getiN (pc' := 86) hC fl_X1_83 (by first | decide | assumption | omega) (by first | rfl | assumption) rfl (by first | assumption | (rw [zk_u_s]; rfl) | (rw [hI]; rfl)) ⟨dX1_farBlock_83, rfl⟩ ?_ | refine zk_geti (pc' := 86) hC fl_X1_83 (by first | decide | assumption | omega) (by first | rfl | assumption) rfl ⟨dX1_farBlock_83, rfl⟩ ?_
        refine zk_icmp_neN (pc' := 89) hC ⟨dX1_farBlock_86, rfl⟩ 98 (by decide) (by omega) (by omega) (fun q2 => ?_) (fun q2 => ?_)
        · rw [hui, if_neg q2, if_pos q] at h98
          exact h98
        · refine zk_iload (pc' := 91) hC rfl ⟨dX1_farBlock_89, rfl⟩ ?_
          refine zk_iload_n (pc' := 92) hC rfl ⟨dX1_farBlock_91, rfl⟩ ?_
          first | refine zk_iaddN (pc' := 93) hC ⟨dX1_farBlock_92, rfl⟩ ?_ | refine zk_iadd (pc' := 93) hC ⟨dX1_farBlock_92, rfl⟩ ?_
          refine zk_iconst (pc' := 94) (x := nI 1) hC ⟨dX1_farBlock_93, rfl⟩ zc_iconst_1 ?_
          first | refine zk_isubN (pc' := 95) hC ⟨dX1_farBlock_94, rfl⟩ (by omega) ?_ | refine zk_isub (pc' := 95) hC ⟨dX1_farBlock_94, rfl⟩ ?_
          first | refine zk_i2lN (pc' := 96) hC ⟨dX1_farBlock_95, rfl⟩ (by omega) ?_ | refine zk_i2l (pc' := 96) hC ⟨dX1_farBlock_95, rfl⟩ ?_
          refine zk_ls6 (pc' := 98) hC ⟨dX1_farBlock_96, rfl⟩ rfl ?_
          rw [hui, if_pos q2] at h98
          exact h98
  refine zk_lload_n (pc' := 99) hC rfl ⟨dX1_farBlock_98, rfl⟩ ?_
  refine zk_ldc2 (pc' := 102) (x := 4294967295) hC ⟨dX1_farBlock_99, rfl⟩ kl_X1_110 ?_
  first | refine zk_landN (pc' := 103) hC ⟨dX1_farBlock_102, rfl⟩ (by omega) ?_ | refine zk_land (pc' := 103) hC ⟨dX1_farBlock_102, rfl⟩ ?_
  refine zk_ls8 (pc' := 105) hC ⟨dX1_farBlock_103, rfl⟩ rfl ?_
  refine zk_lload (pc' := 107) hC rfl ⟨dX1_farBlock_105, rfl⟩ ?_
  refine zk_lload (pc' := 109) hC rfl ⟨dX1_farBlock_107, rfl⟩ ?_
  first | refine zk_lmulN (pc' := 110) hC ⟨dX1_farBlock_109, rfl⟩ ?_ | refine zk_lmul (pc' := 110) hC ⟨dX1_farBlock_109, rfl⟩ ?_
  refine zk_bipush (pc' := 112) (x := nI 32) hC ⟨dX1_farBlock_110, rfl⟩ zc_bipush_32 ?_
  first | refine zk_lushrN (pc' := 113) hC ⟨dX1_farBlock_112, rfl⟩ (by omega) (by decide) ?_ | refine zk_lushr (pc' := 113) hC ⟨dX1_farBlock_112, rfl⟩ ?_
  refine zk_ls10 (pc' := 115) hC ⟨dX1_farBlock_113, rfl⟩ rfl ?_
  rw [← hxd]
  refine zk_lload (pc' := 117) hC rfl ⟨dX1_farBlock_115, rfl⟩ ?_
  refine zk_lconst (pc' := 118) (x := lN 1) hC ⟨dX1_farBlock_117, rfl⟩ rfl ?_
  first | refine zk_lsubN (pc' := 119) hC ⟨dX1_farBlock_118, rfl⟩ (by omega) ?_ | refine zk_lsub (pc' := 119) hC ⟨dX1_farBlock_118, rfl⟩ ?_
  refine zk_lload (pc' := 121) hC rfl ⟨dX1_farBlock_119, rfl⟩ ?_
  refine zk_lload (pc' := 123) hC rfl ⟨dX1_farBlock_121, rfl⟩ ?_
  first | refine zk_lmulN (pc' := 124) hC ⟨dX1_farBlock_123, rfl⟩ ?_ | refine zk_lmul (pc' := 124) hC ⟨dX1_farBlock_123, rfl⟩ ?_
  refine zk_bipush (pc' := 126) (x := nI 32) hC ⟨dX1_farBlock_124, rfl⟩ zc_bipush_32 ?_
  first | refine zk_lushrN (pc' := 127) hC ⟨dX1_farBlock_126, rfl⟩ (by omega) (by decide) ?_ | refine zk_lushr (pc' := 127) hC ⟨dX1_farBlock_126, rfl⟩ ?_
  first | refine zk_lsubN (pc' := 128) hC ⟨dX1_farBlock_127, rfl⟩ (by omega) ?_ | refine zk_lsub (pc' := 128) hC ⟨dX1_farBlock_127, rfl⟩ ?_
  first | refine zk_l2iN (pc' := 129) hC ⟨dX1_farBlock_128, rfl⟩ ?_ | refine zk_l2i (pc' := 129) hC ⟨dX1_farBlock_128, rfl⟩ ?_
  rw [← hyd]
  refine zk_is12 (pc' := 131) hC ⟨dX1_farBlock_129, rfl⟩ rfl ?_
  suffices h161 : zk_A 0 X E 161 [some (.ref (zk_ad X 30)), some (.int (nI i)), some (.long (lN nn)), none, some (.int (nI fla)), some (.int (nI fin)), some (.long (lN u)), none, some (.long (lN (nn % 2 ^ 32))), none, some (.long (lN xx)), none, some (.int (nI y)), none, none] [.int (nI fst)] I J by
    refine zk_aload_n (pc' := 132) hC rfl ⟨dX1_farBlock_131, rfl⟩ ?_
    first | refine zk_getiN (pc' := 135) hC fl_X1_89 (by first | decide | assumption | omega) (by first | rfl | assumption) rfl (by first | assumption | (rw [zk_u_s]; rfl) | (rw [hI]; rfl)) ⟨dX1_farBlock_132, rfl⟩ ?_ | refine zk_geti (pc' := 135) hC fl_X1_89 (by first | decide | assumption | omega) (by first | rfl | assumption) rfl ⟨dX1_farBlock_132, rfl⟩ ?_
    refine zk_if_eqN (pc' := 138) hC ⟨dX1_farBlock_135, rfl⟩ 146 (by decide) (by omega) (fun q => ?_) (fun q => ?_)
    · refine zk_iconst (pc' := 147) (x := nI 0) hC ⟨dX1_farBlock_146, rfl⟩ zc_iconst_0 ?_
      refine zk_goto (pc' := 150) hC ⟨dX1_farBlock_147, rfl⟩ 161 (by decide) ?_
      rw [hfsd, if_pos (Or.inl q)] at h161
      exact h161
    · refine zk_aload_n (pc' := 139) hC rfl ⟨dX1_farBlock_138, rfl⟩ ?_
      first | refine zk_getiN (pc' := 142) hC fl_X1_86 (by first | decide | assumption | omega) (by first | rfl | assumption) rfl (by first | assumption | (rw [zk_u_s]; rfl) | (rw [hI]; rfl)) ⟨dX1_farBlock_139, rfl⟩ ?_ | refine zk_geti (pc' := 142) hC fl_X1_86 (by first | decide | assumption | omega) (by first | rfl | assumption) rfl ⟨dX1_farBlock_139, rfl⟩ ?_
      refine zk_iconst (pc' := 143) (x := nI 3) hC ⟨dX1_farBlock_142, rfl⟩ zc_iconst_3 ?_
      refine zk_icmp_neN (pc' := 146) hC ⟨dX1_farBlock_143, rfl⟩ 150 (by decide) (by omega) (by omega) (fun q2 => ?_) (fun q2 => ?_)
      · refine zk_aload_n (pc' := 151) hC rfl ⟨dX1_farBlock_150, rfl⟩ ?_
        first | refine zk_getiN (pc' := 154) hC fl_X1_86 (by first | decide | assumption | omega) (by first | rfl | assumption) rfl (by first | assumption | (rw [zk_u_s]; rfl) | (rw [hI]; rfl)) ⟨dX1_farBlock_151, rfl⟩ ?_ | refine zk_geti (pc' := 154) hC fl_X1_86 (by first | decide | assumption | omega) (by first | rfl | assumption) rfl ⟨dX1_farBlock_151, rfl⟩ ?_
        refine zk_iconst (pc' := 155) (x := nI 1) hC ⟨dX1_farBlock_154, rfl⟩ zc_iconst_1 ?_
        first | refine zk_iaddN (pc' := 156) hC ⟨dX1_farBlock_155, rfl⟩ ?_ | refine zk_iadd (pc' := 156) hC ⟨dX1_farBlock_155, rfl⟩ ?_
        refine zk_aload_n (pc' := 157) hC rfl ⟨dX1_farBlock_156, rfl⟩ ?_
        first | refine zk_getiN (pc' := 160) hC fl_X1_47 (by first | decide | assumption | omega) (by first | rfl | assumption) rfl (by first | assumption | (rw [zk_u_s]; rfl) | (rw [hI]; rfl)) ⟨dX1_farBlock_157, rfl⟩ ?_ | refine zk_geti (pc' := 160) hC fl_X1_47 (by first | decide | assumption | omega) (by first | rfl | assumption) rfl ⟨dX1_farBlock_157, rfl⟩ ?_
        first | refine zk_imulN (pc' := 161) hC ⟨dX1_farBlock_160, rfl⟩ ?_ | refine zk_imul (pc' := 161) hC ⟨dX1_farBlock_160, rfl⟩ ?_
        rw [hfsd, if_neg (by omega)] at h161
        exact h161
      · refine zk_iconst (pc' := 147) (x := nI 0) hC ⟨dX1_farBlock_146, rfl⟩ zc_iconst_0 ?_
        refine zk_goto (pc' := 150) hC ⟨dX1_farBlock_147, rfl⟩ 161 (by decide) ?_
        rw [hfsd, if_pos (Or.inr q2)] at h161
        exact h161
  have hylt : y ≤ 4 * sb := by omega
  refine zk_is13 (pc' := 163) hC ⟨dX1_farBlock_161, rfl⟩ rfl ?_
  refine zk_iload (pc' := 165) hC rfl ⟨dX1_farBlock_163, rfl⟩ ?_
  refine zk_iload (pc' := 167) hC rfl ⟨dX1_farBlock_165, rfl⟩ ?_
  first | refine zk_iaddN (pc' := 168) hC ⟨dX1_farBlock_167, rfl⟩ ?_ | refine zk_iadd (pc' := 168) hC ⟨dX1_farBlock_167, rfl⟩ ?_
  refine zk_is14 (pc' := 170) hC ⟨dX1_farBlock_168, rfl⟩ rfl ?_
  refine zk_iload (pc' := 172) hC rfl ⟨dX1_farBlock_170, rfl⟩ ?_
  refine zk_aload_n (pc' := 173) hC rfl ⟨dX1_farBlock_172, rfl⟩ ?_
  first | refine zk_getiN (pc' := 176) hC fl_X1_50 (by first | decide | assumption | omega) (by first | rfl | assumption) rfl (by first | assumption | (rw [zk_u_s]; rfl) | (rw [hI]; rfl)) ⟨dX1_farBlock_173, rfl⟩ ?_ | refine zk_geti (pc' := 176) hC fl_X1_50 (by first | decide | assumption | omega) (by first | rfl | assumption) rfl ⟨dX1_farBlock_173, rfl⟩ ?_
  first | refine zk_imulN (pc' := 177) hC ⟨dX1_farBlock_176, rfl⟩ ?_ | refine zk_imul (pc' := 177) hC ⟨dX1_farBlock_176, rfl⟩ ?_
  refine zk_iload (pc' := 179) hC rfl ⟨dX1_farBlock_177, rfl⟩ ?_
  refine zk_aload_n (pc' := 180) hC rfl ⟨dX1_farBlock_179, rfl⟩ ?_
  first | refine zk_getiN (pc' := 183) hC fl_X1_50 (by first | decide | assumption | omega) (by first | rfl | assumption) rfl (by first | assumption | (rw [zk_u_s]; rfl) | (rw [hI]; rfl)) ⟨dX1_farBlock_180, rfl⟩ ?_ | refine zk_geti (pc' := 183) hC fl_X1_50 (by first | decide | assumption | omega) (by first | rfl | assumption) rfl ⟨dX1_farBlock_180, rfl⟩ ?_
  refine zk_icmp_geN (pc' := 186) hC ⟨dX1_farBlock_183, rfl⟩ 191 (by decide) (by omega) (by omega) (fun q => ?_) (fun q => ?_)
  · refine zk_iload (pc' := 193) hC rfl ⟨dX1_farBlock_191, rfl⟩ ?_
    refine zk_aload_n (pc' := 194) hC rfl ⟨dX1_farBlock_193, rfl⟩ ?_
    first | refine zk_getiN (pc' := 197) hC fl_X1_50 (by first | decide | assumption | omega) (by first | rfl | assumption) rfl (by first | assumption | (rw [zk_u_s]; rfl) | (rw [hI]; rfl)) ⟨dX1_farBlock_194, rfl⟩ ?_ | refine zk_geti (pc' := 197) hC fl_X1_50 (by first | decide | assumption | omega) (by first | rfl | assumption) rfl ⟨dX1_farBlock_194, rfl⟩ ?_
    first | refine zk_isubN (pc' := 198) hC ⟨dX1_farBlock_197, rfl⟩ (by omega) ?_ | refine zk_isub (pc' := 198) hC ⟨dX1_farBlock_197, rfl⟩ ?_
    first | refine zk_iaddN (pc' := 199) hC ⟨dX1_farBlock_198, rfl⟩ ?_ | refine zk_iadd (pc' := 199) hC ⟨dX1_farBlock_198, rfl⟩ ?_
    rw [fl_wrap, if_neg (by omega)] at hR
    exact zk_iret (pc' := 200) hC hR rfl rfl rfl ⟨dX1_farBlock_199, rfl⟩
  · refine zk_iload (pc' := 188) hC rfl ⟨dX1_farBlock_186, rfl⟩ ?_
    refine zk_goto (pc' := 191) hC ⟨dX1_farBlock_188, rfl⟩ 198 (by decide) ?_
    first | refine zk_iaddN (pc' := 199) hC ⟨dX1_farBlock_198, rfl⟩ ?_ | refine zk_iadd (pc' := 199) hC ⟨dX1_farBlock_198, rfl⟩ ?_
    rw [fl_wrap, if_pos q] at hR
    exact zk_iret (pc' := 200) hC hR rfl rfl rfl ⟨dX1_farBlock_199, rfl⟩

