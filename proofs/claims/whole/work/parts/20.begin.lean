/-! SLOWSEAL: begin, fill, tag, seal -/
def lf_M (I : zk_I) (co l j : Nat) : Nat × (Nat → Int32) := bz_pn 1028 (bz_pn 1028 (bz_pa 1028 (bz_pn 1028 (0, I 24) (lN 1024) 4) (I 21) co) (lN j) 4) (lN l) 4
theorem lf_M_le {I : zk_I} {co l j : Nat} : (lf_M I co l j).1 ≤ 1028 := bz_pn_le (bz_pn_le (bz_pa_le (bz_pn_le (Nat.zero_le _) 4) co) 4) 4
def lf_T (s : zk_I × zk_J) (co l j : Nat) : hz_T := hz_LL s.1 s.2 (lf_M s.1 co l j) 1024
def lf_1 (s : zk_I × zk_J) (co lb l j : Nat) : zk_I × zk_J := (hz_I s.1 (lf_T s co l j), zk_u (lf_T s co l j).2.2 (38 + (l * lb + j)) (fz_fill ((lf_T s co l j).2.2 (38 + (l * lb + j))) (fun k => hz_wd (lf_T s co l j).1.2 (lf_T s co l j).1.1 (8 * k)) 128))
def lf (s : zk_I × zk_J) (co lb : Nat) : Nat → zk_I × zk_J
  | 0 => s
  | q + 1 => lf_1 (lf s co lb q) co lb (q / 2) (q % 2)
theorem lf_o {s : zk_I × zk_J} {co lb a : Nat} (h : ¬ (23 ≤ a ∧ a ≤ 26)) : ∀ q, (lf s co lb q).1 a = s.1 a
  | 0 => rfl
  | q + 1 => by rw [lf, lf_1]; dsimp only; rw [hz_I_o h]; exact lf_o h q

set_option maxHeartbeats 1000000 in
set_option maxRecDepth 100000 in
theorem c_X4_layFirstBlocks (X : zk_X) (I : zk_I) (J : zk_J) {g0 : Nat → Int32} {kd ln ps tg lb sb dn pa sl la : Nat} (hI : I 30 = fl_g g0 kd ln ps tg lb sb dn pa sl la) {co : Nat} (hln : ln ≤ 4) (hlb : 2 ≤ lb) (hnb : ln * lb ≤ 128) (ho : I 20 1 = nI co) (hco : co ≤ 64) : zk_M 0 X yX4_layFirstBlocks cX4_layFirstBlocks 3 none (5, 118) [.ref (zk_ad X 0)] I J none (lf (I, J) co lb (2 * ln)).1 (lf (I, J) co lb (2 * ln)).2 := by
  refine zk_M.intro (by decide) (lv := [some (.ref (zk_ad X 0)), none, none]) rfl rfl (fun E hC hR => ?_)
  have hIq : ∀ q, (lf (I, J) co lb q).1 30 = fl_g g0 kd ln ps tg lb sb dn pa sl la := fun q => (lf_o (by omega) q).trans hI
  have hOq : ∀ q, (lf (I, J) co lb q).1 20 1 = nI co := fun q => by rw [lf_o (by omega)]; exact ho
  refine zk_iconst (pc' := 1) (x := nI 0) hC ⟨dX4_layFirstBlocks_0, rfl⟩ zc_iconst_0 ?_
  refine zk_is1 (pc' := 2) hC ⟨dX4_layFirstBlocks_1, rfl⟩ rfl ?_
  refine zk_up (P := fun l => zk_A 0 X E 2 [some (.ref (zk_ad X 0)), some (.int (nI l)), none] [] (lf (I, J) co lb (2 * l)).1 (lf (I, J) co lb (2 * l)).2) ln ?_ (fun l hl ih => ?_)
  · skip
    have hI := hIq (2 * ln)
    refine zk_iload_n (pc' := 3) hC rfl ⟨dX4_layFirstBlocks_2, rfl⟩ ?_
    refine zk_aload_n (pc' := 4) hC rfl ⟨dX4_layFirstBlocks_3, rfl⟩ ?_
    refine zk_getr (pc' := 7) hC fl_X4_35 (by first | decide | assumption | omega) (by first | rfl | assumption) rfl ⟨dX4_layFirstBlocks_4, rfl⟩ ?_
    first | refine zk_getiN (pc' := 10) hC fl_X4_145 (by first | decide | assumption | omega) (by first | rfl | assumption) rfl (by first | assumption | (rw [zk_u_s]; rfl) | (rw [hI]; rfl)) ⟨dX4_layFirstBlocks_7, rfl⟩ ?_ | refine zk_geti (pc' := 10) hC fl_X4_145 (by first | decide | assumption | omega) (by first | rfl | assumption) rfl ⟨dX4_layFirstBlocks_7, rfl⟩ ?_
    refine zk_icmp_geN (pc' := 13) hC ⟨dX4_layFirstBlocks_10, rfl⟩ 108 (by decide) (by omega) (by omega) (fun q => ?_) (fun q => ?_)
    · exact zk_vret (pc' := 109) hC hR rfl rfl rfl ⟨dX4_layFirstBlocks_108, rfl⟩
    · omega
  · skip
    have hI := hIq (2 * l)
    have hml : l * lb + lb ≤ ln * lb := by have := Nat.mul_le_mul_right lb (show l + 1 ≤ ln from hl); rwa [Nat.add_mul, Nat.one_mul] at this
    refine zk_iload_n (pc' := 3) hC rfl ⟨dX4_layFirstBlocks_2, rfl⟩ ?_
    refine zk_aload_n (pc' := 4) hC rfl ⟨dX4_layFirstBlocks_3, rfl⟩ ?_
    refine zk_getr (pc' := 7) hC fl_X4_35 (by first | decide | assumption | omega) (by first | rfl | assumption) rfl ⟨dX4_layFirstBlocks_4, rfl⟩ ?_
    first | refine zk_getiN (pc' := 10) hC fl_X4_145 (by first | decide | assumption | omega) (by first | rfl | assumption) rfl (by first | assumption | (rw [zk_u_s]; rfl) | (rw [hI]; rfl)) ⟨dX4_layFirstBlocks_7, rfl⟩ ?_ | refine zk_geti (pc' := 10) hC fl_X4_145 (by first | decide | assumption | omega) (by first | rfl | assumption) rfl ⟨dX4_layFirstBlocks_7, rfl⟩ ?_
    refine zk_icmp_geN (pc' := 13) hC ⟨dX4_layFirstBlocks_10, rfl⟩ 108 (by decide) (by omega) (by omega) (fun q => ?_) (fun q => ?_)
    · omega
    · refine zk_iconst (pc' := 14) (x := nI 0) hC ⟨dX4_layFirstBlocks_13, rfl⟩ zc_iconst_0 ?_
      refine zk_is2 (pc' := 15) hC ⟨dX4_layFirstBlocks_14, rfl⟩ rfl ?_
      refine zk_up (P := fun j => zk_A 0 X E 15 [some (.ref (zk_ad X 0)), some (.int (nI l)), some (.int (nI j))] [] (lf (I, J) co lb (2 * l + j)).1 (lf (I, J) co lb (2 * l + j)).2) 2 ?_ (fun j hj ihj => ?_)
      · skip
        refine zk_iload_n (pc' := 16) hC rfl ⟨dX4_layFirstBlocks_15, rfl⟩ ?_
        refine zk_iconst (pc' := 17) (x := nI 2) hC ⟨dX4_layFirstBlocks_16, rfl⟩ zc_iconst_2 ?_
        refine zk_icmp_geN (pc' := 20) hC ⟨dX4_layFirstBlocks_17, rfl⟩ 102 (by decide) (by omega) (by omega) (fun q2 => ?_) (fun q2 => ?_)
        · refine zk_fg2 ?_
          first | refine zk_in1 (pc' := 105) hC ⟨dX4_layFirstBlocks_102, rfl⟩ ?_ | refine zk_iincG (pc' := 105) hC ⟨dX4_layFirstBlocks_102, rfl⟩ rfl ?_
          refine zk_goto (pc' := 108) hC ⟨dX4_layFirstBlocks_105, rfl⟩ 2 (by decide) ?_
          exact ih
        · omega
      · skip
        have hI := hIq (2 * l + j)
        have hO := hOq (2 * l + j)
        revert ihj
        show zk_A 0 X E 15 [some (.ref (zk_ad X 0)), some (.int (nI l)), some (.int (nI (j + 1)))] [] (lf_1 (lf (I, J) co lb (2 * l + j)) co lb ((2 * l + j) / 2) ((2 * l + j) % 2)).1 (lf_1 (lf (I, J) co lb (2 * l + j)) co lb ((2 * l + j) / 2) ((2 * l + j) % 2)).2 → _
        rw [show (2 * l + j) / 2 = l by omega, show (2 * l + j) % 2 = j by omega]
        generalize lf (I, J) co lb (2 * l + j) = S at hI hO ⊢
        obtain ⟨I1, J1⟩ := S
        unfold lf_1 lf_T
        dsimp only at hI hO ⊢
        intro ihj
        have hM := lf_M_le (I := I1) (co := co) (l := l) (j := j)
        have hMd : lf_M I1 co l j = bz_pn 1028 (bz_pn 1028 (bz_pa 1028 (bz_pn 1028 (0, I1 24) (lN 1024) 4) (I1 21) co) (lN j) 4) (lN l) 4 := rfl
        refine zk_iload_n (pc' := 16) hC rfl ⟨dX4_layFirstBlocks_15, rfl⟩ ?_
        refine zk_iconst (pc' := 17) (x := nI 2) hC ⟨dX4_layFirstBlocks_16, rfl⟩ zc_iconst_2 ?_
        refine zk_icmp_geN (pc' := 20) hC ⟨dX4_layFirstBlocks_17, rfl⟩ 102 (by decide) (by omega) (by omega) (fun q2 => ?_) (fun q2 => ?_)
        · omega
        · refine zk_aload_n (pc' := 21) hC rfl ⟨dX4_layFirstBlocks_20, rfl⟩ ?_
          refine zk_getr (pc' := 24) hC fl_X4_28 (by first | decide | assumption | omega) (by first | rfl | assumption) rfl ⟨dX4_layFirstBlocks_21, rfl⟩ ?_
          refine zk_sipush (pc' := 27) (x := nI 1024) hC ⟨dX4_layFirstBlocks_24, rfl⟩ zc_sipush_1024 ?_
          refine zk_callV0 (pc' := 30) hC ml_X4_85 mi_X2_openLong (c_X2_openLong X I1 J1 (n := 1024) (by decide)) (by decide) (by first | decide | assumption | omega) (by first | rfl | assumption) rfl rfl rfl (Nat.le_of_ble_eq_true rfl) ⟨dX4_layFirstBlocks_27, rfl⟩ ?_
          have hA : (bz_pn 1028 (0, I1 24) (lN 1024) 4).1 ≤ 1028 := bz_pn_le (Nat.zero_le _) 4
          generalize bz_pn 1028 (0, I1 24) (lN 1024) 4 = A1 at hA hMd ⊢
          refine zk_aload_n (pc' := 31) hC rfl ⟨dX4_layFirstBlocks_30, rfl⟩ ?_
          refine zk_getr (pc' := 34) hC fl_X4_28 (by first | decide | assumption | omega) (by first | rfl | assumption) rfl ⟨dX4_layFirstBlocks_31, rfl⟩ ?_
          refine zk_getr (pc' := 37) hC fl_X4_69 (by first | decide | assumption | omega) (by first | rfl | assumption) rfl ⟨dX4_layFirstBlocks_34, rfl⟩ ?_
          refine zk_aload_n (pc' := 38) hC rfl ⟨dX4_layFirstBlocks_37, rfl⟩ ?_
          refine zk_getr (pc' := 41) hC fl_X4_22 (by first | decide | assumption | omega) (by first | rfl | assumption) rfl ⟨dX4_layFirstBlocks_38, rfl⟩ ?_
          refine zk_callV0 (pc' := 44) hC ml_X4_72 mi_X0_putAll (c_X0_putAll X (bz_set I1 23 24 A1) J1 bz_msg bz_open (by decide) (by decide) bz_set_c hA (by rw [bz_set_o (by decide) (by decide)]; exact hO) hco) (by decide) (by first | decide | assumption | omega) (by first | rfl | assumption) rfl rfl rfl (Nat.le_of_ble_eq_true rfl) ⟨dX4_layFirstBlocks_41, rfl⟩ ?_
          rw [bz_set_f (show 24 ≠ 23 by decide), bz_set_set (show 24 ≠ 23 by decide), bz_set_o (a := 21) (by decide) (by decide)]
          have hB : (bz_pa 1028 (A1.1, A1.2) (I1 21) co).1 ≤ 1028 := bz_pa_le hA co
          generalize bz_pa 1028 (A1.1, A1.2) (I1 21) co = A2 at hB hMd ⊢
          refine zk_aload_n (pc' := 45) hC rfl ⟨dX4_layFirstBlocks_44, rfl⟩ ?_
          refine zk_getr (pc' := 48) hC fl_X4_28 (by first | decide | assumption | omega) (by first | rfl | assumption) rfl ⟨dX4_layFirstBlocks_45, rfl⟩ ?_
          refine zk_getr (pc' := 51) hC fl_X4_69 (by first | decide | assumption | omega) (by first | rfl | assumption) rfl ⟨dX4_layFirstBlocks_48, rfl⟩ ?_
          refine zk_iload_n (pc' := 52) hC rfl ⟨dX4_layFirstBlocks_51, rfl⟩ ?_
          first | refine zk_i2lN (pc' := 53) hC ⟨dX4_layFirstBlocks_52, rfl⟩ (by omega) ?_ | refine zk_i2l (pc' := 53) hC ⟨dX4_layFirstBlocks_52, rfl⟩ ?_
          refine zk_iconst (pc' := 54) (x := nI 4) hC ⟨dX4_layFirstBlocks_53, rfl⟩ zc_iconst_4 ?_
          refine zk_callV0 (pc' := 57) hC ml_X4_51 mi_X0_putNumber (c_X0_putNumber X (bz_set I1 23 24 A2) J1 bz_msg (q := 4) (lN j) (nI 4) (Or.inl ⟨rfl, by decide⟩) bz_set_c hB) (by decide) (by first | decide | assumption | omega) (by first | rfl | assumption) rfl rfl rfl (Nat.le_of_ble_eq_true rfl) ⟨dX4_layFirstBlocks_54, rfl⟩ ?_
          rw [bz_set_f (show 24 ≠ 23 by decide), bz_set_set (show 24 ≠ 23 by decide)]
          have hCc : (bz_pn 1028 (A2.1, A2.2) (lN j) 4).1 ≤ 1028 := bz_pn_le hB 4
          generalize bz_pn 1028 (A2.1, A2.2) (lN j) 4 = A3 at hCc hMd ⊢
          refine zk_aload_n (pc' := 58) hC rfl ⟨dX4_layFirstBlocks_57, rfl⟩ ?_
          refine zk_getr (pc' := 61) hC fl_X4_28 (by first | decide | assumption | omega) (by first | rfl | assumption) rfl ⟨dX4_layFirstBlocks_58, rfl⟩ ?_
          refine zk_getr (pc' := 64) hC fl_X4_69 (by first | decide | assumption | omega) (by first | rfl | assumption) rfl ⟨dX4_layFirstBlocks_61, rfl⟩ ?_
          refine zk_iload_n (pc' := 65) hC rfl ⟨dX4_layFirstBlocks_64, rfl⟩ ?_
          first | refine zk_i2lN (pc' := 66) hC ⟨dX4_layFirstBlocks_65, rfl⟩ (by omega) ?_ | refine zk_i2l (pc' := 66) hC ⟨dX4_layFirstBlocks_65, rfl⟩ ?_
          refine zk_iconst (pc' := 67) (x := nI 4) hC ⟨dX4_layFirstBlocks_66, rfl⟩ zc_iconst_4 ?_
          refine zk_callV0 (pc' := 70) hC ml_X4_51 mi_X0_putNumber (c_X0_putNumber X (bz_set I1 23 24 A3) J1 bz_msg (q := 4) (lN l) (nI 4) (Or.inl ⟨rfl, by decide⟩) bz_set_c hCc) (by decide) (by first | decide | assumption | omega) (by first | rfl | assumption) rfl rfl rfl (Nat.le_of_ble_eq_true rfl) ⟨dX4_layFirstBlocks_67, rfl⟩ ?_
          rw [bz_set_f (show 24 ≠ 23 by decide), bz_set_set (show 24 ≠ 23 by decide)]
          rw [show bz_pn 1028 (A3.1, A3.2) (lN l) 4 = lf_M I1 co l j from hMd.symm]
          generalize lf_M I1 co l j = M2 at hM ihj ⊢
          refine zk_aload_n (pc' := 71) hC rfl ⟨dX4_layFirstBlocks_70, rfl⟩ ?_
          refine zk_getr (pc' := 74) hC fl_X4_28 (by first | decide | assumption | omega) (by first | rfl | assumption) rfl ⟨dX4_layFirstBlocks_71, rfl⟩ ?_
          refine zk_sipush (pc' := 77) (x := nI 1024) hC ⟨dX4_layFirstBlocks_74, rfl⟩ zc_sipush_1024 ?_
          refine zk_callV0 (pc' := 80) hC ml_X4_88 mi_X2_makeLong (c_X2_makeLong X (bz_set I1 23 24 M2) J1 bz_set_c hM (n := 1024) (by decide) (by decide)) (by decide) (by first | decide | assumption | omega) (by first | rfl | assumption) rfl rfl rfl (Nat.le_of_ble_eq_true rfl) ⟨dX4_layFirstBlocks_77, rfl⟩ ?_
          rw [bz_set_f (show 24 ≠ 23 by decide), bz_set_o (a := 26) (by decide) (by decide), hz_I_m0]
          change zk_A 0 X E 80 _ _ (hz_I I1 (hz_LL I1 J1 M2 1024)) (hz_LL I1 J1 M2 1024).2.2
          have hTc := hz_LL_c (I := I1) (J := J1) (p := M2) (n := 1024) hM (by decide)
          generalize hz_LL I1 J1 M2 1024 = S at hTc ihj ⊢
          have hI2 : hz_I I1 S 30 = fl_g g0 kd ln ps tg lb sb dn pa sl la := (hz_I_o (by omega)).trans hI
          refine zk_aload_n (pc' := 81) hC rfl ⟨dX4_layFirstBlocks_80, rfl⟩ ?_
          refine zk_getr (pc' := 84) hC fl_X4_35 (by first | decide | assumption | omega) (by first | rfl | assumption) rfl ⟨dX4_layFirstBlocks_81, rfl⟩ ?_
          refine zk_iload_n (pc' := 85) hC rfl ⟨dX4_layFirstBlocks_84, rfl⟩ ?_
          refine zk_iload_n (pc' := 86) hC rfl ⟨dX4_layFirstBlocks_85, rfl⟩ ?_
          refine zk_aload_n (pc' := 87) hC rfl ⟨dX4_layFirstBlocks_86, rfl⟩ ?_
          refine zk_getr (pc' := 90) hC fl_X4_28 (by first | decide | assumption | omega) (by first | rfl | assumption) rfl ⟨dX4_layFirstBlocks_87, rfl⟩ ?_
          refine zk_getr (pc' := 93) hC fl_X4_79 (by first | decide | assumption | omega) (by first | rfl | assumption) rfl ⟨dX4_layFirstBlocks_90, rfl⟩ ?_
          refine zk_callV0 (pc' := 96) hC ml_X4_161 mi_X1_lay (c_X1_lay X (hz_I I1 S) S.2.2 hI2 (l := l) (j := j) hz_I_d (by omega) (by omega)) (by decide) (by first | decide | assumption | omega) (by first | rfl | assumption) rfl rfl rfl (Nat.le_of_ble_eq_true rfl) ⟨dX4_layFirstBlocks_93, rfl⟩ ?_
          rw [hz_I_df]
          first | refine zk_in2 (pc' := 99) hC ⟨dX4_layFirstBlocks_96, rfl⟩ ?_ | refine zk_iincG (pc' := 99) hC ⟨dX4_layFirstBlocks_96, rfl⟩ rfl ?_
          refine zk_goto (pc' := 102) hC ⟨dX4_layFirstBlocks_99, rfl⟩ 15 (by decide) ?_
          exact ihj

set_option maxHeartbeats 1000000 in
set_option maxRecDepth 100000 in
theorem c_X4_begin_bad (X : zk_X) (I : zk_I) (J : zk_J) (kd ln ps mm tg pw st sc dt : Int32) {e : Nat} (he : I (rg_p st) 1 = nI e) (he2 : e ≤ 200) (hbad : ¬ (fl_poss kd ln ps mm tg ∧ is_r pw ∧ (sc = -1 ∨ is_r sc) ∧ (dt = -1 ∨ is_r dt) ∧ is_r st ∧ 8 ≤ e)) : zk_M 0 X yX4_begin cX4_begin 10 ((some .int)) (6, 140) [.ref (zk_ad X 0), .int kd, .int ln, .int ps, .int mm, .int tg, .int pw, .int st, .int sc, .int dt] I J (some (.int (-2))) I J := by
  refine zk_M.intro (by decide) (lv := [some (.ref (zk_ad X 0)), some (.int kd), some (.int ln), some (.int ps), some (.int mm), some (.int tg), some (.int pw), some (.int st), some (.int sc), some (.int dt)]) rfl rfl (fun E hC hR => ?_)
  obtain ⟨hk1, hk2, hk3, hk4, hk5⟩ := rg_ok st
  refine zk_iload_n (pc' := 1) hC rfl ⟨dX4_begin_0, rfl⟩ ?_
  refine zk_iload_n (pc' := 2) hC rfl ⟨dX4_begin_1, rfl⟩ ?_
  refine zk_iload_n (pc' := 3) hC rfl ⟨dX4_begin_2, rfl⟩ ?_
  refine zk_iload (pc' := 5) hC rfl ⟨dX4_begin_3, rfl⟩ ?_
  refine zk_iload (pc' := 7) hC rfl ⟨dX4_begin_5, rfl⟩ ?_
  refine zk_callS1 (pc' := 10) hC ml_X4_91 ms_X1_isPossible (c_X1_isPossible X I J kd ln ps mm tg) (by decide) rfl rfl (Nat.le_of_ble_eq_true rfl) ⟨dX4_begin_7, rfl⟩ ?_
  rw [fl_pi]
  by_cases h1 : fl_poss kd ln ps mm tg
  · skip
    rw [if_pos h1]
    refine zk_if_neN (pc' := 13) hC ⟨dX4_begin_10, rfl⟩ 16 (by decide) (by omega) (fun z => ?_) (fun z => ?_)
    · refine zk_iload (pc' := 18) hC rfl ⟨dX4_begin_16, rfl⟩ ?_
      refine zk_callS1 (pc' := 21) hC ml_X4_39 ms_X4_isRegister (c_X4_isRegister X I J pw) (by decide) rfl rfl (Nat.le_of_ble_eq_true rfl) ⟨dX4_begin_18, rfl⟩ ?_
      by_cases h2 : is_r pw
      · skip
        rw [if_pos h2]
        refine zk_if_eqN (pc' := 24) hC ⟨dX4_begin_21, rfl⟩ 40 (by decide) (by omega) (fun z => ?_) (fun z => ?_)
        · omega
        · refine zk_iload (pc' := 26) hC rfl ⟨dX4_begin_24, rfl⟩ ?_
          refine zk_callS1 (pc' := 29) hC ml_X4_62 ms_X4_isRegisterOrNone (c_X4_isRegisterOrNone X I J sc) (by decide) rfl rfl (Nat.le_of_ble_eq_true rfl) ⟨dX4_begin_26, rfl⟩ ?_
          by_cases h3 : sc = -1 ∨ is_r sc
          · skip
            rw [if_pos h3]
            refine zk_if_eqN (pc' := 32) hC ⟨dX4_begin_29, rfl⟩ 40 (by decide) (by omega) (fun z => ?_) (fun z => ?_)
            · omega
            · refine zk_iload (pc' := 34) hC rfl ⟨dX4_begin_32, rfl⟩ ?_
              refine zk_callS1 (pc' := 37) hC ml_X4_62 ms_X4_isRegisterOrNone (c_X4_isRegisterOrNone X I J dt) (by decide) rfl rfl (Nat.le_of_ble_eq_true rfl) ⟨dX4_begin_34, rfl⟩ ?_
              by_cases h4 : dt = -1 ∨ is_r dt
              · skip
                rw [if_pos h4]
                refine zk_if_neN (pc' := 40) hC ⟨dX4_begin_37, rfl⟩ 43 (by decide) (by omega) (fun z => ?_) (fun z => ?_)
                · refine zk_iload (pc' := 45) hC rfl ⟨dX4_begin_43, rfl⟩ ?_
                  refine zk_callS1 (pc' := 48) hC ml_X4_39 ms_X4_isRegister (c_X4_isRegister X I J st) (by decide) rfl rfl (Nat.le_of_ble_eq_true rfl) ⟨dX4_begin_45, rfl⟩ ?_
                  by_cases h5 : is_r st
                  · skip
                    rw [if_pos h5]
                    refine zk_if_eqN (pc' := 51) hC ⟨dX4_begin_48, rfl⟩ 65 (by decide) (by omega) (fun z => ?_) (fun z => ?_)
                    · omega
                    · refine zk_aload_n (pc' := 52) hC rfl ⟨dX4_begin_51, rfl⟩ ?_
                      refine zk_iload (pc' := 54) hC rfl ⟨dX4_begin_52, rfl⟩ ?_
                      refine zk_callV1 (pc' := 57) hC ml_X4_43 mi_X4_bytesOf (c_X4_bytesOf X I J st) (by decide) (by first | decide | assumption | omega) (by first | rfl | assumption) rfl rfl rfl (Nat.le_of_ble_eq_true rfl) ⟨dX4_begin_54, rfl⟩ ?_
                      first | refine zk_getiN (pc' := 60) hC fl_X4_47 (by first | decide | assumption | omega) (by first | rfl | assumption) rfl (by first | assumption | (rw [zk_u_s]; rfl) | (rw [hI]; rfl)) ⟨dX4_begin_57, rfl⟩ ?_ | refine zk_geti (pc' := 60) hC fl_X4_47 (by first | decide | assumption | omega) (by first | rfl | assumption) rfl ⟨dX4_begin_57, rfl⟩ ?_
                      refine zk_bipush (pc' := 62) (x := nI 8) hC ⟨dX4_begin_60, rfl⟩ zc_bipush_8 ?_
                      refine zk_icmp_geN (pc' := 65) hC ⟨dX4_begin_62, rfl⟩ 68 (by decide) (by omega) (by omega) (fun z6 => ?_) (fun z6 => ?_)
                      · exact absurd ⟨h1, h2, h3, h4, h5, z6⟩ hbad
                      · refine zk_bipush (pc' := 67) (x := (-2 : Int32)) hC ⟨dX4_begin_65, rfl⟩ zc_bipush_m2 ?_
                        exact zk_iret (pc' := 68) hC hR rfl rfl rfl ⟨dX4_begin_67, rfl⟩
                  · skip
                    rw [if_neg h5]
                    refine zk_if_eqN (pc' := 51) hC ⟨dX4_begin_48, rfl⟩ 65 (by decide) (by omega) (fun z => ?_) (fun z => ?_)
                    · refine zk_bipush (pc' := 67) (x := (-2 : Int32)) hC ⟨dX4_begin_65, rfl⟩ zc_bipush_m2 ?_
                      exact zk_iret (pc' := 68) hC hR rfl rfl rfl ⟨dX4_begin_67, rfl⟩
                    · omega
                · omega
              · skip
                rw [if_neg h4]
                refine zk_if_neN (pc' := 40) hC ⟨dX4_begin_37, rfl⟩ 43 (by decide) (by omega) (fun z => ?_) (fun z => ?_)
                · omega
                · refine zk_bipush (pc' := 42) (x := (-2 : Int32)) hC ⟨dX4_begin_40, rfl⟩ zc_bipush_m2 ?_
                  exact zk_iret (pc' := 43) hC hR rfl rfl rfl ⟨dX4_begin_42, rfl⟩
          · skip
            rw [if_neg h3]
            refine zk_if_eqN (pc' := 32) hC ⟨dX4_begin_29, rfl⟩ 40 (by decide) (by omega) (fun z => ?_) (fun z => ?_)
            · refine zk_bipush (pc' := 42) (x := (-2 : Int32)) hC ⟨dX4_begin_40, rfl⟩ zc_bipush_m2 ?_
              exact zk_iret (pc' := 43) hC hR rfl rfl rfl ⟨dX4_begin_42, rfl⟩
            · omega
      · skip
        rw [if_neg h2]
        refine zk_if_eqN (pc' := 24) hC ⟨dX4_begin_21, rfl⟩ 40 (by decide) (by omega) (fun z => ?_) (fun z => ?_)
        · refine zk_bipush (pc' := 42) (x := (-2 : Int32)) hC ⟨dX4_begin_40, rfl⟩ zc_bipush_m2 ?_
          exact zk_iret (pc' := 43) hC hR rfl rfl rfl ⟨dX4_begin_42, rfl⟩
        · omega
    · omega
  · skip
    rw [if_neg h1]
    refine zk_if_neN (pc' := 13) hC ⟨dX4_begin_10, rfl⟩ 16 (by decide) (by omega) (fun z => ?_) (fun z => ?_)
    · omega
    · refine zk_bipush (pc' := 15) (x := (-2 : Int32)) hC ⟨dX4_begin_13, rfl⟩ zc_bipush_m2 ?_
      exact zk_iret (pc' := 16) hC hR rfl rfl rfl ⟨dX4_begin_15, rfl⟩

def bg_M (I : zk_I) (p : Nat × (Nat → Int32)) (e1 e2 e3 e4 : Nat) (pw st sc dt : Int32) : Nat × (Nat → Int32) := pw_M (pw_M (pw_M (pw_M p e1 (I (rg_a pw))) e2 (I (rg_a st))) e3 (I (rg_a sc))) e4 (I (rg_a dt))
def bg_T (I : zk_I) (J : zk_J) (k2 l2 p2 mm t2 e1 e2 e3 e4 : Nat) (pw st sc dt : Int32) : hz_T := hs_T I (fl_z J 128) (bg_M I (fl_set (0, I 24) l2 t2 mm p2 k2) e1 e2 e3 e4 pw st sc dt) 0 64
def bg_I2 (I1 : zk_I) (T : hz_T) : zk_I := bz_set (hz_I I1 T) 20 21 (bz_pa 64 (0, I1 21) T.1.2 T.1.1)
def bg_I1 (I : zk_I) (g0 : Nat → Int32) (k2 l2 p2 mm t2 pa sl la : Nat) : zk_I := zk_u I 30 (fl_g g0 k2 l2 p2 t2 (4 * (mm / (4 * l2))) (mm / (4 * l2)) 0 pa sl la)
def bg_S (I : zk_I) (J : zk_J) (g0 : Nat → Int32) (k2 l2 p2 mm t2 pa sl la e1 e2 e3 e4 : Nat) (pw st sc dt : Int32) : zk_I × zk_J :=
  lf (bg_I2 (bg_I1 I g0 k2 l2 p2 mm t2 pa sl la) (bg_T I J k2 l2 p2 mm t2 e1 e2 e3 e4 pw st sc dt), (bg_T I J k2 l2 p2 mm t2 e1 e2 e3 e4 pw st sc dt).2.2) 64 (4 * (mm / (4 * l2))) (2 * l2)
theorem fl_set_le {p : Nat × (Nat → Int32)} {ln tg mm ps kd : Nat} (h : p.1 ≤ 1028) : (fl_set p ln tg mm ps kd).1 ≤ 1028 := bz_pn_le (bz_pn_le (bz_pn_le (bz_pn_le (bz_pn_le (bz_pn_le h 4) 4) 4) 4) 4) 4
theorem fl_sb {l2 mm : Nat} (h3 : 1 ≤ l2) (h4 : l2 ≤ 4) (h5 : 8 * l2 ≤ mm) (h6 : mm ≤ 128) : 2 ≤ mm / (4 * l2) ∧ mm / (4 * l2) ≤ 32 ∧ l2 * (4 * (mm / (4 * l2))) ≤ 128 := by
  have a1 : 4 * l2 * (mm / (4 * l2)) ≤ mm := Nat.mul_div_le mm (4 * l2)
  have a2 : 2 ≤ mm / (4 * l2) := (Nat.le_div_iff_mul_le (by omega)).mpr (by omega)
  have a3 : l2 * (4 * (mm / (4 * l2))) = 4 * l2 * (mm / (4 * l2)) := by rw [← Nat.mul_assoc, Nat.mul_comm l2 4]
  refine ⟨a2, ?_, by omega⟩
  have a4 : 4 * (mm / (4 * l2)) ≤ 4 * l2 * (mm / (4 * l2)) := Nat.mul_le_mul_right _ (by omega)
  omega

set_option maxHeartbeats 1000000 in
set_option maxRecDepth 100000 in
theorem c_X4_begin_ok (X : zk_X) (I : zk_I) (J : zk_J) {g0 : Nat → Int32} {kd ln ps tg lb sb dn pa sl la : Nat} (hI : I 30 = fl_g g0 kd ln ps tg lb sb dn pa sl la) {k2 l2 p2 mm t2 w2 s2 e1 e2 e3 e4 : Nat} (sc dt : Int32) (hpos : fl_poss (nI k2) (nI l2) (nI p2) (nI mm) (nI t2)) (h2 : k2 ≤ 2) (h3 : 1 ≤ l2) (h4 : l2 ≤ 4) (h5 : 8 * l2 ≤ mm) (h6 : mm ≤ 128) (h7 : p2 ≤ 5) (h8 : t2 ≤ 128) (hw2 : w2 < 8) (hs2 : s2 < 8) (hsc : sc = -1 ∨ is_r sc) (hdt : dt = -1 ∨ is_r dt) (he1 : I (rg_p (nI w2)) 1 = nI e1) (he1n : e1 ≤ rg_n (nI w2)) (he2 : I (rg_p (nI s2)) 1 = nI e2) (he2n : e2 ≤ rg_n (nI s2)) (he8 : 8 ≤ e2) (he3 : I (rg_p sc) 1 = nI e3) (he3n : e3 ≤ rg_n sc) (he4 : I (rg_p dt) 1 = nI e4) (he4n : e4 ≤ rg_n dt) : zk_M 0 X yX4_begin cX4_begin 10 ((some .int)) (6, 140) [.ref (zk_ad X 0), .int (nI k2), .int (nI l2), .int (nI p2), .int (nI mm), .int (nI t2), .int (nI w2), .int (nI s2), .int sc, .int dt] I J (some (.int (nI (l2 * (4 * (mm / (4 * l2))))))) (bg_S I J g0 k2 l2 p2 mm t2 pa sl la e1 e2 e3 e4 (nI w2) (nI s2) sc dt).1 (bg_S I J g0 k2 l2 p2 mm t2 pa sl la e1 e2 e3 e4 (nI w2) (nI s2) sc dt).2 := by
  refine zk_M.intro (by decide) (lv := [some (.ref (zk_ad X 0)), some (.int (nI k2)), some (.int (nI l2)), some (.int (nI p2)), some (.int (nI mm)), some (.int (nI t2)), some (.int (nI w2)), some (.int (nI s2)), some (.int sc), some (.int dt)]) rfl rfl (fun E hC hR => ?_)
  obtain ⟨hk1, hk2, hk3, hk4, hk5⟩ := rg_ok (nI s2)
  have hsb := fl_sb h3 h4 h5 h6
  have hrs := rg_nI hs2
  have b1 := rg_b (nI w2)
  have b2 := rg_b (nI s2)
  have b3 := rg_b sc
  have b4 := rg_b dt
  have hpi : fl_pi (nI k2) (nI l2) (nI p2) (nI mm) (nI t2) = nI 1 := by rw [fl_pi, if_pos hpos]
  refine zk_iload_n (pc' := 1) hC rfl ⟨dX4_begin_0, rfl⟩ ?_
  refine zk_iload_n (pc' := 2) hC rfl ⟨dX4_begin_1, rfl⟩ ?_
  refine zk_iload_n (pc' := 3) hC rfl ⟨dX4_begin_2, rfl⟩ ?_
  refine zk_iload (pc' := 5) hC rfl ⟨dX4_begin_3, rfl⟩ ?_
  refine zk_iload (pc' := 7) hC rfl ⟨dX4_begin_5, rfl⟩ ?_
  refine zk_callS1 (pc' := 10) hC ml_X4_91 ms_X1_isPossible (c_X1_isPossible X I J (nI k2) (nI l2) (nI p2) (nI mm) (nI t2)) (by decide) rfl rfl (Nat.le_of_ble_eq_true rfl) ⟨dX4_begin_7, rfl⟩ ?_
  rw [hpi]
  refine zk_if_neN (pc' := 13) hC ⟨dX4_begin_10, rfl⟩ 16 (by decide) (by omega) (fun z => ?_) (fun z => ?_)
  · refine zk_iload (pc' := 18) hC rfl ⟨dX4_begin_16, rfl⟩ ?_
    refine zk_callS1 (pc' := 21) hC ml_X4_39 ms_X4_isRegister (c_X4_isRegister X I J (nI w2)) (by decide) rfl rfl (Nat.le_of_ble_eq_true rfl) ⟨dX4_begin_18, rfl⟩ ?_
    rw [if_pos (is_r_nI hw2)]
    refine zk_if_eqN (pc' := 24) hC ⟨dX4_begin_21, rfl⟩ 40 (by decide) (by omega) (fun z => ?_) (fun z => ?_)
    · omega
    · refine zk_iload (pc' := 26) hC rfl ⟨dX4_begin_24, rfl⟩ ?_
      refine zk_callS1 (pc' := 29) hC ml_X4_62 ms_X4_isRegisterOrNone (c_X4_isRegisterOrNone X I J sc) (by decide) rfl rfl (Nat.le_of_ble_eq_true rfl) ⟨dX4_begin_26, rfl⟩ ?_
      rw [if_pos hsc]
      refine zk_if_eqN (pc' := 32) hC ⟨dX4_begin_29, rfl⟩ 40 (by decide) (by omega) (fun z => ?_) (fun z => ?_)
      · omega
      · refine zk_iload (pc' := 34) hC rfl ⟨dX4_begin_32, rfl⟩ ?_
        refine zk_callS1 (pc' := 37) hC ml_X4_62 ms_X4_isRegisterOrNone (c_X4_isRegisterOrNone X I J dt) (by decide) rfl rfl (Nat.le_of_ble_eq_true rfl) ⟨dX4_begin_34, rfl⟩ ?_
        rw [if_pos hdt]
        refine zk_if_neN (pc' := 40) hC ⟨dX4_begin_37, rfl⟩ 43 (by decide) (by omega) (fun z => ?_) (fun z => ?_)
        · refine zk_iload (pc' := 45) hC rfl ⟨dX4_begin_43, rfl⟩ ?_
          refine zk_callS1 (pc' := 48) hC ml_X4_39 ms_X4_isRegister (c_X4_isRegister X I J (nI s2)) (by decide) rfl rfl (Nat.le_of_ble_eq_true rfl) ⟨dX4_begin_45, rfl⟩ ?_
          rw [if_pos (is_r_nI hs2)]
          refine zk_if_eqN (pc' := 51) hC ⟨dX4_begin_48, rfl⟩ 65 (by decide) (by omega) (fun z => ?_) (fun z => ?_)
          · omega
          · refine zk_aload_n (pc' := 52) hC rfl ⟨dX4_begin_51, rfl⟩ ?_
            refine zk_iload (pc' := 54) hC rfl ⟨dX4_begin_52, rfl⟩ ?_
            refine zk_callV1 (pc' := 57) hC ml_X4_43 mi_X4_bytesOf (c_X4_bytesOf X I J (nI s2)) (by decide) (by first | decide | assumption | omega) (by first | rfl | assumption) rfl rfl rfl (Nat.le_of_ble_eq_true rfl) ⟨dX4_begin_54, rfl⟩ ?_
            first | refine zk_getiN (pc' := 60) hC fl_X4_47 (by first | decide | assumption | omega) (by first | rfl | assumption) rfl (by first | assumption | (rw [zk_u_s]; rfl) | (rw [hI]; rfl)) ⟨dX4_begin_57, rfl⟩ ?_ | refine zk_geti (pc' := 60) hC fl_X4_47 (by first | decide | assumption | omega) (by first | rfl | assumption) rfl ⟨dX4_begin_57, rfl⟩ ?_
            refine zk_bipush (pc' := 62) (x := nI 8) hC ⟨dX4_begin_60, rfl⟩ zc_bipush_8 ?_
            refine zk_icmp_geN (pc' := 65) hC ⟨dX4_begin_62, rfl⟩ 68 (by decide) (by omega) (by omega) (fun z6 => ?_) (fun z6 => ?_)
            · refine zk_aload_n (pc' := 69) hC rfl ⟨dX4_begin_68, rfl⟩ ?_
              refine zk_getr (pc' := 72) hC fl_X4_35 (by first | decide | assumption | omega) (by first | rfl | assumption) rfl ⟨dX4_begin_69, rfl⟩ ?_
              refine zk_iload_n (pc' := 73) hC rfl ⟨dX4_begin_72, rfl⟩ ?_
              refine zk_iload_n (pc' := 74) hC rfl ⟨dX4_begin_73, rfl⟩ ?_
              refine zk_iload_n (pc' := 75) hC rfl ⟨dX4_begin_74, rfl⟩ ?_
              refine zk_iload (pc' := 77) hC rfl ⟨dX4_begin_75, rfl⟩ ?_
              refine zk_iload (pc' := 79) hC rfl ⟨dX4_begin_77, rfl⟩ ?_
              refine zk_callV0 (pc' := 82) hC ml_X4_95 mi_X1_restart (c_X1_restart X I J hI hpos h2 h3 h4 h6 h7 h8) (by decide) (by first | decide | assumption | omega) (by first | rfl | assumption) rfl rfl rfl (Nat.le_of_ble_eq_true rfl) ⟨dX4_begin_79, rfl⟩ ?_
              change zk_A 0 X E 82 _ _ (bg_I1 I g0 k2 l2 p2 mm t2 pa sl la) (fl_z J 128)
              have hI1 : bg_I1 I g0 k2 l2 p2 mm t2 pa sl la 30 = fl_g g0 k2 l2 p2 t2 (4 * (mm / (4 * l2))) (mm / (4 * l2)) 0 pa sl la := zk_u_s
              have hI1o : ∀ a, a ≠ 30 → bg_I1 I g0 k2 l2 p2 mm t2 pa sl la a = I a := fun a ha => zk_u_n ha
              have hTd : bg_T I J k2 l2 p2 mm t2 e1 e2 e3 e4 (nI w2) (nI s2) sc dt = hs_T I (fl_z J 128) (pw_M (pw_M (pw_M (pw_M (fl_set (0, I 24) l2 t2 mm p2 k2) e1 (I (rg_a (nI w2)))) e2 (I (rg_a (nI s2)))) e3 (I (rg_a sc))) e4 (I (rg_a dt))) 0 64 := rfl
              unfold bg_S at hR
              generalize bg_I1 I g0 k2 l2 p2 mm t2 pa sl la = I1 at hI1 hI1o hR ⊢
              generalize bg_T I J k2 l2 p2 mm t2 e1 e2 e3 e4 (nI w2) (nI s2) sc dt = T at hTd hR
              generalize fl_z J 128 = J1 at hTd ⊢
              refine zk_aload_n (pc' := 83) hC rfl ⟨dX4_begin_82, rfl⟩ ?_
              refine zk_getr (pc' := 86) hC fl_X4_28 (by first | decide | assumption | omega) (by first | rfl | assumption) rfl ⟨dX4_begin_83, rfl⟩ ?_
              refine zk_getr (pc' := 89) hC fl_X4_69 (by first | decide | assumption | omega) (by first | rfl | assumption) rfl ⟨dX4_begin_86, rfl⟩ ?_
              refine zk_callV0 (pc' := 92) hC ml_X4_55 mi_X0_empty (c_X0_empty X I1 J1 bz_msg) (by decide) (by first | decide | assumption | omega) (by first | rfl | assumption) rfl rfl rfl (Nat.le_of_ble_eq_true rfl) ⟨dX4_begin_89, rfl⟩ ?_
              refine zk_eqI (I' := bz_set I1 23 24 (0, I 24)) (by rw [bz_set, ← hI1o 24 (by decide), zk_u_self]) ?_
              refine zk_aload_n (pc' := 93) hC rfl ⟨dX4_begin_92, rfl⟩ ?_
              refine zk_getr (pc' := 96) hC fl_X4_35 (by first | decide | assumption | omega) (by first | rfl | assumption) rfl ⟨dX4_begin_93, rfl⟩ ?_
              refine zk_aload_n (pc' := 97) hC rfl ⟨dX4_begin_96, rfl⟩ ?_
              refine zk_getr (pc' := 100) hC fl_X4_28 (by first | decide | assumption | omega) (by first | rfl | assumption) rfl ⟨dX4_begin_97, rfl⟩ ?_
              refine zk_getr (pc' := 103) hC fl_X4_69 (by first | decide | assumption | omega) (by first | rfl | assumption) rfl ⟨dX4_begin_100, rfl⟩ ?_
              refine zk_iload (pc' := 105) hC rfl ⟨dX4_begin_103, rfl⟩ ?_
              refine zk_callV0 (pc' := 108) hC ml_X4_99 mi_X1_putSettings (c_X1_putSettings X (bz_set I1 23 24 (0, I 24)) J1 (bz_set_g hI1) bz_set_c (Nat.zero_le _) h4 h8 h6 h7 h2) (by decide) (by first | decide | assumption | omega) (by first | rfl | assumption) rfl rfl rfl (Nat.le_of_ble_eq_true rfl) ⟨dX4_begin_105, rfl⟩ ?_
              rw [bz_set_f (show 24 ≠ 23 by decide), bz_set_set (show 24 ≠ 23 by decide)]
              have hA0 := fl_set_le (p := (0, I 24)) (ln := l2) (tg := t2) (mm := mm) (ps := p2) (kd := k2) (Nat.zero_le _)
              generalize fl_set (0, I 24) l2 t2 mm p2 k2 = A0 at hA0 hTd ⊢
              refine zk_aload_n (pc' := 109) hC rfl ⟨dX4_begin_108, rfl⟩ ?_
              refine zk_iload (pc' := 111) hC rfl ⟨dX4_begin_109, rfl⟩ ?_
              refine zk_callV0 (pc' := 114) hC ml_X4_103 mi_X4_putWithLength (c_X4_putWithLength X (bz_set I1 23 24 A0) J1 (e := e1) (nI w2) bz_set_c hA0 (by rw [bz_set_o (by omega) (by omega), hI1o _ (by omega)]; assumption) (by assumption)) (by decide) (by first | decide | assumption | omega) (by first | rfl | assumption) rfl rfl rfl (Nat.le_of_ble_eq_true rfl) ⟨dX4_begin_111, rfl⟩ ?_
              rw [bz_set_f (show 24 ≠ 23 by decide), bz_set_set (show 24 ≠ 23 by decide), bz_set_o (by omega) (by omega), hI1o _ (by omega)]
              have hA1 := pw_M_le (e := e1) (g := I (rg_a (nI w2))) hA0
              change zk_A 0 X E 114 _ _ (bz_set I1 23 24 (pw_M A0 e1 (I (rg_a (nI w2))))) J1
              generalize pw_M A0 e1 (I (rg_a (nI w2))) = A1 at hA1 hTd ⊢
              refine zk_aload_n (pc' := 115) hC rfl ⟨dX4_begin_114, rfl⟩ ?_
              refine zk_iload (pc' := 117) hC rfl ⟨dX4_begin_115, rfl⟩ ?_
              refine zk_callV0 (pc' := 120) hC ml_X4_103 mi_X4_putWithLength (c_X4_putWithLength X (bz_set I1 23 24 A1) J1 (e := e2) (nI s2) bz_set_c hA1 (by rw [bz_set_o (by omega) (by omega), hI1o _ (by omega)]; assumption) (by assumption)) (by decide) (by first | decide | assumption | omega) (by first | rfl | assumption) rfl rfl rfl (Nat.le_of_ble_eq_true rfl) ⟨dX4_begin_117, rfl⟩ ?_
              rw [bz_set_f (show 24 ≠ 23 by decide), bz_set_set (show 24 ≠ 23 by decide), bz_set_o (by omega) (by omega), hI1o _ (by omega)]
              have hA2 := pw_M_le (e := e2) (g := I (rg_a (nI s2))) hA1
              change zk_A 0 X E 120 _ _ (bz_set I1 23 24 (pw_M A1 e2 (I (rg_a (nI s2))))) J1
              generalize pw_M A1 e2 (I (rg_a (nI s2))) = A2 at hA2 hTd ⊢
              refine zk_aload_n (pc' := 121) hC rfl ⟨dX4_begin_120, rfl⟩ ?_
              refine zk_iload (pc' := 123) hC rfl ⟨dX4_begin_121, rfl⟩ ?_
              refine zk_callV0 (pc' := 126) hC ml_X4_103 mi_X4_putWithLength (c_X4_putWithLength X (bz_set I1 23 24 A2) J1 (e := e3) sc bz_set_c hA2 (by rw [bz_set_o (by omega) (by omega), hI1o _ (by omega)]; assumption) (by assumption)) (by decide) (by first | decide | assumption | omega) (by first | rfl | assumption) rfl rfl rfl (Nat.le_of_ble_eq_true rfl) ⟨dX4_begin_123, rfl⟩ ?_
              rw [bz_set_f (show 24 ≠ 23 by decide), bz_set_set (show 24 ≠ 23 by decide), bz_set_o (by omega) (by omega), hI1o _ (by omega)]
              have hA3 := pw_M_le (e := e3) (g := I (rg_a sc)) hA2
              change zk_A 0 X E 126 _ _ (bz_set I1 23 24 (pw_M A2 e3 (I (rg_a sc)))) J1
              generalize pw_M A2 e3 (I (rg_a sc)) = A3 at hA3 hTd ⊢
              refine zk_aload_n (pc' := 127) hC rfl ⟨dX4_begin_126, rfl⟩ ?_
              refine zk_iload (pc' := 129) hC rfl ⟨dX4_begin_127, rfl⟩ ?_
              refine zk_callV0 (pc' := 132) hC ml_X4_103 mi_X4_putWithLength (c_X4_putWithLength X (bz_set I1 23 24 A3) J1 (e := e4) dt bz_set_c hA3 (by rw [bz_set_o (by omega) (by omega), hI1o _ (by omega)]; assumption) (by assumption)) (by decide) (by first | decide | assumption | omega) (by first | rfl | assumption) rfl rfl rfl (Nat.le_of_ble_eq_true rfl) ⟨dX4_begin_129, rfl⟩ ?_
              rw [bz_set_f (show 24 ≠ 23 by decide), bz_set_set (show 24 ≠ 23 by decide), bz_set_o (by omega) (by omega), hI1o _ (by omega)]
              have hA4 := pw_M_le (e := e4) (g := I (rg_a dt)) hA3
              change zk_A 0 X E 132 _ _ (bz_set I1 23 24 (pw_M A3 e4 (I (rg_a dt)))) J1
              generalize pw_M A3 e4 (I (rg_a dt)) = A4 at hA4 hTd ⊢
              refine zk_aload_n (pc' := 133) hC rfl ⟨dX4_begin_132, rfl⟩ ?_
              refine zk_getr (pc' := 136) hC fl_X4_28 (by first | decide | assumption | omega) (by first | rfl | assumption) rfl ⟨dX4_begin_133, rfl⟩ ?_
              refine zk_bipush (pc' := 138) (x := nI 64) hC ⟨dX4_begin_136, rfl⟩ zc_bipush_64 ?_
              refine zk_iconst (pc' := 139) (x := nI 0) hC ⟨dX4_begin_138, rfl⟩ zc_iconst_0 ?_
              refine zk_callV0 (pc' := 142) hC ml_X4_75 mi_X2_makeShort (c_X2_makeShort X (bz_set I1 23 24 A4) J1 bz_set_c hA4 (klen := 0) (by decide) (n := 64) (by decide)) (by decide) (by first | decide | assumption | omega) (by first | rfl | assumption) rfl rfl rfl (Nat.le_of_ble_eq_true rfl) ⟨dX4_begin_139, rfl⟩ ?_
              rw [bz_set_f (show 24 ≠ 23 by decide), bz_set_o (a := 26) (by decide) (by decide), hI1o 26 (by decide), bz_I_m (J := hz_dg A4.2 A4.1 0 64 J1)]
              change zk_A 0 X E 142 _ _ (hz_I I1 (hs_T I J1 A4 0 64)) (hs_T I J1 A4 0 64).2.2
              have hTc := hs_T_c (I := I) (J := J1) (p := A4) (e := 0) (n := 64) (by decide)
              rw [← hTd] at hTc ⊢
              refine zk_aload_n (pc' := 143) hC rfl ⟨dX4_begin_142, rfl⟩ ?_
              refine zk_getr (pc' := 146) hC fl_X4_22 (by first | decide | assumption | omega) (by first | rfl | assumption) rfl ⟨dX4_begin_143, rfl⟩ ?_
              refine zk_aload_n (pc' := 147) hC rfl ⟨dX4_begin_146, rfl⟩ ?_
              refine zk_getr (pc' := 150) hC fl_X4_28 (by first | decide | assumption | omega) (by first | rfl | assumption) rfl ⟨dX4_begin_147, rfl⟩ ?_
              refine zk_getr (pc' := 153) hC fl_X4_79 (by first | decide | assumption | omega) (by first | rfl | assumption) rfl ⟨dX4_begin_150, rfl⟩ ?_
              refine zk_callV0 (pc' := 156) hC ml_X4_82 mi_X0_become (c_X0_become X (hz_I I1 T) _ bz_open bz_made (by decide) (by decide) hz_I_d (by omega)) (by decide) (by first | decide | assumption | omega) (by first | rfl | assumption) rfl rfl rfl (Nat.le_of_ble_eq_true rfl) ⟨dX4_begin_153, rfl⟩ ?_
              rw [hz_I_df, hz_I_o (a := 21) (by omega)]
              change zk_A 0 X E 156 _ _ (bg_I2 I1 T) T.2.2
              have hI2 : bg_I2 I1 T 30 = fl_g g0 k2 l2 p2 t2 (4 * (mm / (4 * l2))) (mm / (4 * l2)) 0 pa sl la := by rw [bg_I2, bz_set_o (by decide) (by decide), hz_I_o (by omega)]; exact hI1
              have ho2 : bg_I2 I1 T 20 1 = nI 64 := by rw [bg_I2, bz_set_c, bz_pa_c (Nat.zero_le _), hTc]; rfl
              generalize bg_I2 I1 T = I2 at hI2 ho2 hR ⊢
              refine zk_aload_n (pc' := 157) hC rfl ⟨dX4_begin_156, rfl⟩ ?_
              refine zk_callV0 (pc' := 160) hC ml_X4_106 mi_X4_layFirstBlocks (c_X4_layFirstBlocks X I2 T.2.2 hI2 (co := 64) h4 (by omega) hsb.2.2 ho2 (by decide)) (by decide) (by first | decide | assumption | omega) (by first | rfl | assumption) rfl rfl rfl (Nat.le_of_ble_eq_true rfl) ⟨dX4_begin_157, rfl⟩ ?_
              have hI3 := (lf_o (s := (I2, T.2.2)) (co := 64) (lb := 4 * (mm / (4 * l2))) (a := 30) (by omega) (2 * l2)).trans hI2
              refine zk_aload_n (pc' := 161) hC rfl ⟨dX4_begin_160, rfl⟩ ?_
              refine zk_getr (pc' := 164) hC fl_X4_35 (by first | decide | assumption | omega) (by first | rfl | assumption) rfl ⟨dX4_begin_161, rfl⟩ ?_
              refine zk_callV1 (pc' := 167) hC ml_X4_109 mi_X1_blocks (c_X1_blocks X _ _ hI3) (by decide) (by first | decide | assumption | omega) (by first | rfl | assumption) rfl rfl rfl (Nat.le_of_ble_eq_true rfl) ⟨dX4_begin_164, rfl⟩ ?_
              exact zk_iret (pc' := 168) hC hR rfl rfl rfl ⟨dX4_begin_167, rfl⟩
            · omega
        · omega
  · omega

