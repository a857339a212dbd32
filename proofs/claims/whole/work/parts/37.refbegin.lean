/-! THE REFERENCE: begin, seal -/
set_option maxHeartbeats 1000000 in
set_option maxRecDepth 100000 in
theorem c_X5_isPerhaps (X : zk_X) (I : zk_I) (J : zk_J) (x : Int32) : zk_M 1 X yX5_isPerhaps cX5_isPerhaps 1 ((some .boolean)) (2, 42) [.int x] I J (some (.int (nI (if x = -1 ∨ is_r x then 1 else 0)))) I J := by
  refine zk_M.intro (by decide) (lv := [some (.int x)]) rfl rfl (fun E hC hR => ?_)
  refine zk_iload_n (pc' := 1) hC rfl ⟨dX5_isPerhaps_0, rfl⟩ ?_
  refine zk_iconst (pc' := 2) (x := (-1 : Int32)) hC ⟨dX5_isPerhaps_1, rfl⟩ zc_iconst_m1 ?_
  refine zk_icmp_eq (pc' := 5) hC ⟨dX5_isPerhaps_2, rfl⟩ 12 (by decide) (fun q => ?_) (fun q => ?_)
  · rw [if_pos (Or.inl q)] at hR
    refine zk_iconst (pc' := 13) (x := nI 1) hC ⟨dX5_isPerhaps_12, rfl⟩ zc_iconst_1 ?_
    refine zk_goto (pc' := 16) hC ⟨dX5_isPerhaps_13, rfl⟩ 17 (by decide) ?_
    exact zk_zret (pc' := 18) hC hR rfl rfl rfl rfl ⟨dX5_isPerhaps_17, rfl⟩
  · refine zk_iload_n (pc' := 6) hC rfl ⟨dX5_isPerhaps_5, rfl⟩ ?_
    refine zk_callS1 (pc' := 9) hC ml_X5_58 ms_X5_isRegister (c_X5_isRegister X I J x) (by decide) rfl rfl (Nat.le_of_ble_eq_true rfl) ⟨dX5_isPerhaps_6, rfl⟩ ?_
    by_cases h : is_r x
    · skip
      rw [if_pos h]
      rw [if_pos (Or.inr h)] at hR
      refine zk_if_eqN (pc' := 12) hC ⟨dX5_isPerhaps_9, rfl⟩ 16 (by decide) (by omega) (fun q2 => ?_) (fun q2 => ?_)
      · omega
      · refine zk_iconst (pc' := 13) (x := nI 1) hC ⟨dX5_isPerhaps_12, rfl⟩ zc_iconst_1 ?_
        refine zk_goto (pc' := 16) hC ⟨dX5_isPerhaps_13, rfl⟩ 17 (by decide) ?_
        exact zk_zret (pc' := 18) hC hR rfl rfl rfl rfl ⟨dX5_isPerhaps_17, rfl⟩
    · skip
      rw [if_neg h]
      rw [if_neg (fun z => z.elim q h)] at hR
      refine zk_if_eqN (pc' := 12) hC ⟨dX5_isPerhaps_9, rfl⟩ 16 (by decide) (by omega) (fun q2 => ?_) (fun q2 => ?_)
      · refine zk_iconst (pc' := 17) (x := nI 0) hC ⟨dX5_isPerhaps_16, rfl⟩ zc_iconst_0 ?_
        exact zk_zret (pc' := 18) hC hR rfl rfl rfl rfl ⟨dX5_isPerhaps_17, rfl⟩
      · omega

abbrev md_P : Type := (Nat → Int32) × Nat
def md_p4 (p : md_P) (x : Int64) : md_P := (md_cp p.1 p.2 (md_by x) 4, p.2 + 4)
def md_po (p : md_P) (e : Nat) (g : Nat → Int32) : md_P := (md_cp (md_cp p.1 p.2 (md_by (lN e)) 4) (p.2 + 4) g e, p.2 + 4 + e)

set_option maxHeartbeats 1000000 in
set_option maxRecDepth 100000 in
theorem c_X5_putOwn (X : zk_X) (I : zk_I) (J : zk_J) {g0 : Nat → Int32} {th ks sz bg kd ln ps tg sc dn : Nat} (hI : I 0 = md_g g0 th ks sz bg kd ln ps tg sc dn) {e : Nat} (k : Int32) (hk : k = -1 ∨ is_r k) (he : is_r k → I 1 k.toNatClampNeg = nI e) (he0 : k = -1 → e = 0) (hen : e ≤ 200) (hsz : sz + 4 + e ≤ 1400) : zk_M 1 X yX5_putOwn cX5_putOwn 2 none (1, 24) [.ref (zk_ad X 0), .int k] I J none (mdm I (md_po (I 4, sz) e (md_rb I k.toNatClampNeg)).1 (md_g g0 th ks (sz + 4 + e) bg kd ln ps tg sc dn)) J := by
  refine zk_M.intro (by decide) (lv := [some (.ref (zk_ad X 0)), some (.int k)]) rfl rfl (fun E hC hR => ?_)
  refine zk_aload_n (pc' := 1) hC rfl ⟨dX5_putOwn_0, rfl⟩ ?_
  refine zk_iconst (pc' := 2) (x := nI 4) hC ⟨dX5_putOwn_1, rfl⟩ zc_iconst_4 ?_
  refine zk_iload_n (pc' := 3) hC rfl ⟨dX5_putOwn_2, rfl⟩ ?_
  refine zk_iconst (pc' := 4) (x := (-1 : Int32)) hC ⟨dX5_putOwn_3, rfl⟩ zc_iconst_m1 ?_
  refine zk_icmp_ne (pc' := 7) hC ⟨dX5_putOwn_4, rfl⟩ 11 (by decide) (fun q => ?_) (fun q => ?_)
  · have h4 := hk.resolve_left q
    have he2 := he h4
    obtain ⟨r, hr, rfl⟩ := is_r_of h4
    rw [nI_clamp (by omega)] at he2 hR
    refine zk_aload_n (pc' := 12) hC rfl ⟨dX5_putOwn_11, rfl⟩ ?_
    refine zk_getr (pc' := 15) hC fl_X5_7 (by first | decide | assumption | omega) (by first | rfl | assumption) rfl ⟨dX5_putOwn_12, rfl⟩ ?_
    refine zk_iload_n (pc' := 16) hC rfl ⟨dX5_putOwn_15, rfl⟩ ?_
    first | refine zk_ialdU (pc' := 17) hC (by first | decide | assumption | omega) (by first | rfl | assumption) (by omega) (by first | decide | omega) ⟨dX5_putOwn_16, rfl⟩ ?_ | refine zk_ialdN (pc' := 17) hC (by first | decide | assumption | omega) (by first | rfl | assumption) (by omega) (by first | decide | omega) ⟨dX5_putOwn_16, rfl⟩ ?_ | refine zk_t0N (pc' := 17) hC (by omega) ⟨dX5_putOwn_16, rfl⟩ ?_ | refine zk_t2N (pc' := 17) hC (by omega) ⟨dX5_putOwn_16, rfl⟩ ?_
    rw [he2]
    first | refine zk_i2lN (pc' := 18) hC ⟨dX5_putOwn_17, rfl⟩ (by omega) ?_ | refine zk_i2l (pc' := 18) hC ⟨dX5_putOwn_17, rfl⟩ ?_
    refine zk_callV0 (pc' := 21) hC ml_X5_144 mi_X5_put (c_X5_put X I J hI (n := 4) (lN e) (by decide) (by omega)) (by decide) (by first | decide | assumption | omega) (by first | rfl | assumption) rfl rfl rfl (Nat.le_of_ble_eq_true rfl) ⟨dX5_putOwn_18, rfl⟩ ?_
    have hM0 := mdm_0 (I := I) (f := md_cp (I 4) sz (md_by (lN e)) 4) (g := (md_g g0 th ks (sz + 4) bg kd ln ps tg sc dn))
    refine zk_iload_n (pc' := 22) hC rfl ⟨dX5_putOwn_21, rfl⟩ ?_
    refine zk_iconst (pc' := 23) (x := (-1 : Int32)) hC ⟨dX5_putOwn_22, rfl⟩ zc_iconst_m1 ?_
    refine zk_icmp_eq (pc' := 26) hC ⟨dX5_putOwn_23, rfl⟩ 31 (by decide) (fun q2 => ?_) (fun q2 => ?_)
    · exact absurd q2 q
    · refine zk_aload_n (pc' := 27) hC rfl ⟨dX5_putOwn_26, rfl⟩ ?_
      refine zk_iload_n (pc' := 28) hC rfl ⟨dX5_putOwn_27, rfl⟩ ?_
      refine zk_callV0 (pc' := 31) hC ml_X5_148 mi_X5_putRegister (c_X5_putRegister X _ J hM0 hr (by rw [mdm_o (by decide) (by decide)]; exact he2) hen (by omega)) (by decide) (by first | decide | assumption | omega) (by first | rfl | assumption) rfl rfl rfl (Nat.le_of_ble_eq_true rfl) ⟨dX5_putOwn_28, rfl⟩ ?_
      rw [mdm_4, mdm_mdm, mdm_o (show 2 ≠ 0 by decide) (show 2 ≠ 4 by decide)]
      exact zk_vret (pc' := 32) hC hR rfl rfl rfl ⟨dX5_putOwn_31, rfl⟩
  · have h0 := he0 q
    subst h0
    refine zk_lconst (pc' := 8) (x := lN 0) hC ⟨dX5_putOwn_7, rfl⟩ rfl ?_
    refine zk_goto (pc' := 11) hC ⟨dX5_putOwn_8, rfl⟩ 18 (by decide) ?_
    refine zk_callV0 (pc' := 21) hC ml_X5_144 mi_X5_put (c_X5_put X I J hI (n := 4) (lN 0) (by decide) (by omega)) (by decide) (by first | decide | assumption | omega) (by first | rfl | assumption) rfl rfl rfl (Nat.le_of_ble_eq_true rfl) ⟨dX5_putOwn_18, rfl⟩ ?_
    refine zk_iload_n (pc' := 22) hC rfl ⟨dX5_putOwn_21, rfl⟩ ?_
    refine zk_iconst (pc' := 23) (x := (-1 : Int32)) hC ⟨dX5_putOwn_22, rfl⟩ zc_iconst_m1 ?_
    refine zk_icmp_eq (pc' := 26) hC ⟨dX5_putOwn_23, rfl⟩ 31 (by decide) (fun q2 => ?_) (fun q2 => ?_)
    · rw [md_po] at hR
      dsimp only at hR
      rw [md_cp_0] at hR
      exact zk_vret (pc' := 32) hC hR rfl rfl rfl ⟨dX5_putOwn_31, rfl⟩
    · exact absurd q q2

set_option maxHeartbeats 1000000 in
set_option maxRecDepth 100000 in
theorem c_X5_begin_bad (X : zk_X) (I : zk_I) (J : zk_J) (kd ln ps mm tg pw st sc dt : Int32) {e : Nat} (he : is_r st → I 1 st.toNatClampNeg = nI e) (he2 : e ≤ 200) (hbad : ¬ (fl_poss kd ln ps mm tg ∧ is_r pw ∧ (sc = -1 ∨ is_r sc) ∧ (dt = -1 ∨ is_r dt) ∧ is_r st ∧ 8 ≤ e)) : zk_M 1 X yX5_begin cX5_begin 13 ((some .int)) (5, 125) [.ref (zk_ad X 0), .int kd, .int ln, .int ps, .int mm, .int tg, .int pw, .int st, .int sc, .int dt] I J (some (.int (-2))) (md_0 I) J := by
  refine zk_M.intro (by decide) (lv := [some (.ref (zk_ad X 0)), some (.int kd), some (.int ln), some (.int ps), some (.int mm), some (.int tg), some (.int pw), some (.int st), some (.int sc), some (.int dt), none, none, none]) rfl rfl (fun E hC hR => ?_)
  refine zk_aload_n (pc' := 1) hC rfl ⟨dX5_begin_0, rfl⟩ ?_
  refine zk_iconst (pc' := 2) (x := nI 0) hC ⟨dX5_begin_1, rfl⟩ zc_iconst_0 ?_
  refine zk_puti (pc' := 5) hC fl_X5_50 fp_X5_0 (by first | decide | assumption | omega) (by first | rfl | assumption) rfl rfl rfl ⟨dX5_begin_2, rfl⟩ ?_
  change zk_A 1 X E 5 _ _ (md_0 I) J
  refine zk_iload_n (pc' := 6) hC rfl ⟨dX5_begin_5, rfl⟩ ?_
  refine zk_iconst (pc' := 7) (x := nI 0) hC ⟨dX5_begin_6, rfl⟩ zc_iconst_0 ?_
  refine zk_iconst (pc' := 8) (x := nI 2) hC ⟨dX5_begin_7, rfl⟩ zc_iconst_2 ?_
  refine zk_callS1 (pc' := 11) hC ml_X5_54 ms_X5_in (c_X5_in X _ J kd (nI 0) (nI 2)) (by decide) rfl rfl (Nat.le_of_ble_eq_true rfl) ⟨dX5_begin_8, rfl⟩ ?_
  by_cases g1 : md_in kd (nI 0) (nI 2)
  · skip
    rw [if_pos g1]
    refine zk_if_eqN (pc' := 14) hC ⟨dX5_begin_11, rfl⟩ 103 (by decide) (by omega) (fun z => ?_) (fun z => ?_)
    · omega
    · refine zk_iload_n (pc' := 15) hC rfl ⟨dX5_begin_14, rfl⟩ ?_
      refine zk_iconst (pc' := 16) (x := nI 1) hC ⟨dX5_begin_15, rfl⟩ zc_iconst_1 ?_
      refine zk_iconst (pc' := 17) (x := nI 4) hC ⟨dX5_begin_16, rfl⟩ zc_iconst_4 ?_
      refine zk_callS1 (pc' := 20) hC ml_X5_54 ms_X5_in (c_X5_in X _ J ln (nI 1) (nI 4)) (by decide) rfl rfl (Nat.le_of_ble_eq_true rfl) ⟨dX5_begin_17, rfl⟩ ?_
      by_cases g2 : md_in ln (nI 1) (nI 4)
      · skip
        rw [if_pos g2]
        refine zk_if_eqN (pc' := 23) hC ⟨dX5_begin_20, rfl⟩ 103 (by decide) (by omega) (fun z => ?_) (fun z => ?_)
        · omega
        · refine zk_iload_n (pc' := 24) hC rfl ⟨dX5_begin_23, rfl⟩ ?_
          refine zk_iconst (pc' := 25) (x := nI 1) hC ⟨dX5_begin_24, rfl⟩ zc_iconst_1 ?_
          refine zk_iconst (pc' := 26) (x := nI 5) hC ⟨dX5_begin_25, rfl⟩ zc_iconst_5 ?_
          refine zk_callS1 (pc' := 29) hC ml_X5_54 ms_X5_in (c_X5_in X _ J ps (nI 1) (nI 5)) (by decide) rfl rfl (Nat.le_of_ble_eq_true rfl) ⟨dX5_begin_26, rfl⟩ ?_
          by_cases g3 : md_in ps (nI 1) (nI 5)
          · skip
            rw [if_pos g3]
            refine zk_if_eqN (pc' := 32) hC ⟨dX5_begin_29, rfl⟩ 103 (by decide) (by omega) (fun z => ?_) (fun z => ?_)
            · omega
            · refine zk_iload (pc' := 34) hC rfl ⟨dX5_begin_32, rfl⟩ ?_
              refine zk_bipush (pc' := 36) (x := nI 8) hC ⟨dX5_begin_34, rfl⟩ zc_bipush_8 ?_
              refine zk_iload_n (pc' := 37) hC rfl ⟨dX5_begin_36, rfl⟩ ?_
              first | refine zk_imulN (pc' := 38) hC ⟨dX5_begin_37, rfl⟩ ?_ | refine zk_imul (pc' := 38) hC ⟨dX5_begin_37, rfl⟩ ?_
              refine zk_sipush (pc' := 41) (x := nI 128) hC ⟨dX5_begin_38, rfl⟩ zc_sipush_128 ?_
              refine zk_callS1 (pc' := 44) hC ml_X5_54 ms_X5_in (c_X5_in X _ J mm (nI 8 * ln) (nI 128)) (by decide) rfl rfl (Nat.le_of_ble_eq_true rfl) ⟨dX5_begin_41, rfl⟩ ?_
              by_cases g4 : md_in mm (nI 8 * ln) (nI 128)
              · skip
                rw [if_pos g4]
                refine zk_if_eqN (pc' := 47) hC ⟨dX5_begin_44, rfl⟩ 103 (by decide) (by omega) (fun z => ?_) (fun z => ?_)
                · omega
                · refine zk_iload (pc' := 49) hC rfl ⟨dX5_begin_47, rfl⟩ ?_
                  refine zk_iconst (pc' := 50) (x := nI 4) hC ⟨dX5_begin_49, rfl⟩ zc_iconst_4 ?_
                  refine zk_sipush (pc' := 53) (x := nI 128) hC ⟨dX5_begin_50, rfl⟩ zc_sipush_128 ?_
                  refine zk_callS1 (pc' := 56) hC ml_X5_54 ms_X5_in (c_X5_in X _ J tg (nI 4) (nI 128)) (by decide) rfl rfl (Nat.le_of_ble_eq_true rfl) ⟨dX5_begin_53, rfl⟩ ?_
                  by_cases g5 : md_in tg (nI 4) (nI 128)
                  · skip
                    rw [if_pos g5]
                    refine zk_if_eqN (pc' := 59) hC ⟨dX5_begin_56, rfl⟩ 103 (by decide) (by omega) (fun z => ?_) (fun z => ?_)
                    · omega
                    · refine zk_iload (pc' := 61) hC rfl ⟨dX5_begin_59, rfl⟩ ?_
                      refine zk_callS1 (pc' := 64) hC ml_X5_58 ms_X5_isRegister (c_X5_isRegister X _ J pw) (by decide) rfl rfl (Nat.le_of_ble_eq_true rfl) ⟨dX5_begin_61, rfl⟩ ?_
                      by_cases h2 : is_r pw
                      · skip
                        rw [if_pos h2]
                        refine zk_if_eqN (pc' := 67) hC ⟨dX5_begin_64, rfl⟩ 103 (by decide) (by omega) (fun z => ?_) (fun z => ?_)
                        · omega
                        · refine zk_iload (pc' := 69) hC rfl ⟨dX5_begin_67, rfl⟩ ?_
                          refine zk_callS1 (pc' := 72) hC ml_X5_58 ms_X5_isRegister (c_X5_isRegister X _ J st) (by decide) rfl rfl (Nat.le_of_ble_eq_true rfl) ⟨dX5_begin_69, rfl⟩ ?_
                          by_cases h5 : is_r st
                          · skip
                            rw [if_pos h5]
                            refine zk_if_eqN (pc' := 75) hC ⟨dX5_begin_72, rfl⟩ 103 (by decide) (by omega) (fun z => ?_) (fun z => ?_)
                            · omega
                            · refine zk_iload (pc' := 77) hC rfl ⟨dX5_begin_75, rfl⟩ ?_
                              refine zk_callS1 (pc' := 80) hC ml_X5_158 ms_X5_isPerhaps (c_X5_isPerhaps X _ J sc) (by decide) rfl rfl (Nat.le_of_ble_eq_true rfl) ⟨dX5_begin_77, rfl⟩ ?_
                              by_cases h3 : sc = -1 ∨ is_r sc
                              · skip
                                rw [if_pos h3]
                                refine zk_if_eqN (pc' := 83) hC ⟨dX5_begin_80, rfl⟩ 103 (by decide) (by omega) (fun z => ?_) (fun z => ?_)
                                · omega
                                · refine zk_iload (pc' := 85) hC rfl ⟨dX5_begin_83, rfl⟩ ?_
                                  refine zk_callS1 (pc' := 88) hC ml_X5_158 ms_X5_isPerhaps (c_X5_isPerhaps X _ J dt) (by decide) rfl rfl (Nat.le_of_ble_eq_true rfl) ⟨dX5_begin_85, rfl⟩ ?_
                                  by_cases h4 : dt = -1 ∨ is_r dt
                                  · skip
                                    rw [if_pos h4]
                                    refine zk_if_eqN (pc' := 91) hC ⟨dX5_begin_88, rfl⟩ 103 (by decide) (by omega) (fun z => ?_) (fun z => ?_)
                                    · omega
                                    · have hes := he h5
                                      obtain ⟨s2, hs2, rfl⟩ := is_r_of h5
                                      have hek : md_0 I 1 s2 = nI e := by rw [md_0_o (by decide)]; rwa [nI_clamp (by omega)] at hes
                                      refine zk_aload_n (pc' := 92) hC rfl ⟨dX5_begin_91, rfl⟩ ?_
                                      refine zk_getr (pc' := 95) hC fl_X5_7 (by first | decide | assumption | omega) (by first | rfl | assumption) rfl ⟨dX5_begin_92, rfl⟩ ?_
                                      refine zk_iload (pc' := 97) hC rfl ⟨dX5_begin_95, rfl⟩ ?_
                                      first | refine zk_ialdU (pc' := 98) hC (by first | decide | assumption | omega) (by first | rfl | assumption) (by omega) (by first | decide | omega) ⟨dX5_begin_97, rfl⟩ ?_ | refine zk_ialdN (pc' := 98) hC (by first | decide | assumption | omega) (by first | rfl | assumption) (by omega) (by first | decide | omega) ⟨dX5_begin_97, rfl⟩ ?_ | refine zk_t0N (pc' := 98) hC (by omega) ⟨dX5_begin_97, rfl⟩ ?_ | refine zk_t2N (pc' := 98) hC (by omega) ⟨dX5_begin_97, rfl⟩ ?_
                                      rw [hek]
                                      refine zk_bipush (pc' := 100) (x := nI 8) hC ⟨dX5_begin_98, rfl⟩ zc_bipush_8 ?_
                                      refine zk_icmp_geN (pc' := 103) hC ⟨dX5_begin_100, rfl⟩ 106 (by decide) (by omega) (by omega) (fun z6 => ?_) (fun z6 => ?_)
                                      · exact absurd ⟨⟨by have := g1.1; rwa [nI_0] at this, g1.2, g2.1, g2.2, g3.1, g3.2, g4.1, g4.2, g5.1, g5.2⟩, h2, h3, h4, h5, z6⟩ hbad
                                      · refine zk_bipush (pc' := 105) (x := (-2 : Int32)) hC ⟨dX5_begin_103, rfl⟩ zc_bipush_m2 ?_
                                        exact zk_iret (pc' := 106) hC hR rfl rfl rfl ⟨dX5_begin_105, rfl⟩
                                  · skip
                                    rw [if_neg h4]
                                    refine zk_if_eqN (pc' := 91) hC ⟨dX5_begin_88, rfl⟩ 103 (by decide) (by omega) (fun z => ?_) (fun z => ?_)
                                    · refine zk_bipush (pc' := 105) (x := (-2 : Int32)) hC ⟨dX5_begin_103, rfl⟩ zc_bipush_m2 ?_
                                      exact zk_iret (pc' := 106) hC hR rfl rfl rfl ⟨dX5_begin_105, rfl⟩
                                    · omega
                              · skip
                                rw [if_neg h3]
                                refine zk_if_eqN (pc' := 83) hC ⟨dX5_begin_80, rfl⟩ 103 (by decide) (by omega) (fun z => ?_) (fun z => ?_)
                                · refine zk_bipush (pc' := 105) (x := (-2 : Int32)) hC ⟨dX5_begin_103, rfl⟩ zc_bipush_m2 ?_
                                  exact zk_iret (pc' := 106) hC hR rfl rfl rfl ⟨dX5_begin_105, rfl⟩
                                · omega
                          · skip
                            rw [if_neg h5]
                            refine zk_if_eqN (pc' := 75) hC ⟨dX5_begin_72, rfl⟩ 103 (by decide) (by omega) (fun z => ?_) (fun z => ?_)
                            · refine zk_bipush (pc' := 105) (x := (-2 : Int32)) hC ⟨dX5_begin_103, rfl⟩ zc_bipush_m2 ?_
                              exact zk_iret (pc' := 106) hC hR rfl rfl rfl ⟨dX5_begin_105, rfl⟩
                            · omega
                      · skip
                        rw [if_neg h2]
                        refine zk_if_eqN (pc' := 67) hC ⟨dX5_begin_64, rfl⟩ 103 (by decide) (by omega) (fun z => ?_) (fun z => ?_)
                        · refine zk_bipush (pc' := 105) (x := (-2 : Int32)) hC ⟨dX5_begin_103, rfl⟩ zc_bipush_m2 ?_
                          exact zk_iret (pc' := 106) hC hR rfl rfl rfl ⟨dX5_begin_105, rfl⟩
                        · omega
                  · skip
                    rw [if_neg g5]
                    refine zk_if_eqN (pc' := 59) hC ⟨dX5_begin_56, rfl⟩ 103 (by decide) (by omega) (fun z => ?_) (fun z => ?_)
                    · refine zk_bipush (pc' := 105) (x := (-2 : Int32)) hC ⟨dX5_begin_103, rfl⟩ zc_bipush_m2 ?_
                      exact zk_iret (pc' := 106) hC hR rfl rfl rfl ⟨dX5_begin_105, rfl⟩
                    · omega
              · skip
                rw [if_neg g4]
                refine zk_if_eqN (pc' := 47) hC ⟨dX5_begin_44, rfl⟩ 103 (by decide) (by omega) (fun z => ?_) (fun z => ?_)
                · refine zk_bipush (pc' := 105) (x := (-2 : Int32)) hC ⟨dX5_begin_103, rfl⟩ zc_bipush_m2 ?_
                  exact zk_iret (pc' := 106) hC hR rfl rfl rfl ⟨dX5_begin_105, rfl⟩
                · omega
          · skip
            rw [if_neg g3]
            refine zk_if_eqN (pc' := 32) hC ⟨dX5_begin_29, rfl⟩ 103 (by decide) (by omega) (fun z => ?_) (fun z => ?_)
            · refine zk_bipush (pc' := 105) (x := (-2 : Int32)) hC ⟨dX5_begin_103, rfl⟩ zc_bipush_m2 ?_
              exact zk_iret (pc' := 106) hC hR rfl rfl rfl ⟨dX5_begin_105, rfl⟩
            · omega
      · skip
        rw [if_neg g2]
        refine zk_if_eqN (pc' := 23) hC ⟨dX5_begin_20, rfl⟩ 103 (by decide) (by omega) (fun z => ?_) (fun z => ?_)
        · refine zk_bipush (pc' := 105) (x := (-2 : Int32)) hC ⟨dX5_begin_103, rfl⟩ zc_bipush_m2 ?_
          exact zk_iret (pc' := 106) hC hR rfl rfl rfl ⟨dX5_begin_105, rfl⟩
        · omega
  · skip
    rw [if_neg g1]
    refine zk_if_eqN (pc' := 14) hC ⟨dX5_begin_11, rfl⟩ 103 (by decide) (by omega) (fun z => ?_) (fun z => ?_)
    · refine zk_bipush (pc' := 105) (x := (-2 : Int32)) hC ⟨dX5_begin_103, rfl⟩ zc_bipush_m2 ?_
      exact zk_iret (pc' := 106) hC hR rfl rfl rfl ⟨dX5_begin_105, rfl⟩
    · omega

def mb_P (I : zk_I) (k2 l2 p2 mm t2 e1 e2 e3 e4 : Nat) (pw st sc dt : Int32) : md_P :=
  md_po (md_po (md_po (md_po (md_p4 (md_p4 (md_p4 (md_p4 (md_p4 (md_p4 (I 4, 0) (lN l2)) (lN t2)) (lN mm)) (lN p2)) 19) (lN k2)) e1 (md_rb I pw.toNatClampNeg)) e2 (md_rb I st.toNatClampNeg)) e3 (md_rb I sc.toNatClampNeg)) e4 (md_rb I dt.toNatClampNeg)
/-- the rows behind begin's first hash: the opening in the address row, the memory without anything -/
def mb_J (I2 : zk_I) (J1 : zk_J) : zk_J := zk_u (zk_u J1 13 (fz_fill (J1 13) (fun k => (I2 8 k).toInt64) 64)) 9 (fz_fill (J1 9) (fun _ => lN 0) 16384)
def mb_s (I : zk_I) (J : zk_J) (g : Nat → Int32) (P : md_P) : zk_I × zk_J :=
  (md_HI (mdm I P.1 g) (md_dg (md_b (I 3) P.1 0 P.2) 0 P.2 64 J) g 0 64, mb_J (md_HI (mdm I P.1 g) (md_dg (md_b (I 3) P.1 0 P.2) 0 P.2 64 J) g 0 64) (md_dg (md_b (I 3) P.1 0 P.2) 0 P.2 64 J))
def mb_m (f : Nat → Int32) (a : Nat → Int64) (i j : Nat) : Nat → Int32 := md_cp (md_cp (md_cp f 4 (fun k => md_by (a k) 0) 64) 68 (md_by (lN j)) 4) 72 (md_by (lN i)) 4
def md_ml (f : Nat → Int64) (b : Nat) (o : Nat → Int32) : Nat → Nat → Int64
  | 0 => f
  | k + 1 => vp_updL (md_ml f b o k) (b + k / 8) (md_ml f b o k (b + k / 8) ||| ((o k).toInt64 <<< ((nI (8 * (k % 8))).toInt64 &&& 63)))
def mb_L (s : zk_I × zk_J) (g g64 : Nat → Int32) (i j : Nat) : zk_I × zk_J := md_L (mdm s.1 (mb_m (s.1 4) (s.2 13) i j) g) s.2 g g64 76 1024
def mb_1 (s : zk_I × zk_J) (g g64 : Nat → Int32) (sc i j : Nat) : zk_I × zk_J := ((mb_L s g g64 i j).1, zk_u (mb_L s g g64 i j).2 9 (md_ml ((mb_L s g g64 i j).2 9) (128 * (4 * sc * i + j)) ((mb_L s g g64 i j).1 8) 1024))
def mb (s : zk_I × zk_J) (g g64 : Nat → Int32) (sc : Nat) : Nat → zk_I × zk_J
  | 0 => s
  | q + 1 => mb_1 (mb s g g64 sc q) g g64 sc (q / 2) (q % 2)
theorem md_L_g {I : zk_I} {J : zk_J} {g g64 : Nat → Int32} {sz : Nat} : (md_L I J g g64 sz 1024).1 0 = g64 := by
  unfold md_L
  rw [if_neg (by decide), show hz_turns 1024 = 29 + 1 + 0 from rfl]
  show (md_lr (md_l0 I J g sz 1024 64) g64 1024 (29 + 1)).1 0 = g64
  rw [md_lr, md_l1_0]
theorem mb_1_g {s : zk_I × zk_J} {g g64 : Nat → Int32} {sc i j : Nat} : (mb_1 s g g64 sc i j).1 0 = g64 := md_L_g (I := mdm s.1 (mb_m (s.1 4) (s.2 13) i j) g) (J := s.2) (g := g) (g64 := g64) (sz := 76)

set_option maxHeartbeats 1000000 in
set_option maxRecDepth 100000 in
theorem c_X5_begin_ok (X : zk_X) (I : zk_I) (J : zk_J) {g0 : Nat → Int32} {th sz bg kd ln ps tg sc dn : Nat} (hI : I 0 = md_g g0 th 0 sz bg kd ln ps tg sc dn) {k2 l2 p2 mm t2 w2 s2 e1 e2 e3 e4 : Nat} (sc2 dt : Int32) (h2 : k2 ≤ 2) (h3 : 1 ≤ l2) (h4 : l2 ≤ 4) (h5 : 8 * l2 ≤ mm) (h6 : mm ≤ 128) (h7 : p2 ≤ 5) (h8 : t2 ≤ 128) (h9 : 1 ≤ p2) (h10 : 4 ≤ t2) (hw2 : w2 < 8) (hs2 : s2 < 8) (hsc : sc2 = -1 ∨ is_r sc2) (hdt : dt = -1 ∨ is_r dt) (he1 : I 1 w2 = nI e1) (he1n : e1 ≤ 200) (he2 : I 1 s2 = nI e2) (he2n : e2 ≤ 200) (he8 : 8 ≤ e2) (he3 : is_r sc2 → I 1 sc2.toNatClampNeg = nI e3) (he30 : sc2 = -1 → e3 = 0) (he3n : e3 ≤ 200) (he4 : is_r dt → I 1 dt.toNatClampNeg = nI e4) (he40 : dt = -1 → e4 = 0) (he4n : e4 ≤ 200) : zk_M 1 X yX5_begin cX5_begin 13 ((some .int)) (5, 125) [.ref (zk_ad X 0), .int (nI k2), .int (nI l2), .int (nI p2), .int (nI mm), .int (nI t2), .int (nI w2), .int (nI s2), .int sc2, .int dt] I J (some (.int (nI (4 * (mm / (4 * l2)) * l2)))) (mb (mb_s (md_0 I) J (md_g g0 0 0 (mb_P (md_0 I) k2 l2 p2 mm t2 e1 e2 e3 e4 (nI w2) (nI s2) sc2 dt).2 1 k2 l2 p2 t2 (mm / (4 * l2)) 0) (mb_P (md_0 I) k2 l2 p2 mm t2 e1 e2 e3 e4 (nI w2) (nI s2) sc2 dt)) (md_g g0 0 0 76 1 k2 l2 p2 t2 (mm / (4 * l2)) 0) (md_g g0 0 0 64 1 k2 l2 p2 t2 (mm / (4 * l2)) 0) (mm / (4 * l2)) (2 * l2)).1 (mb (mb_s (md_0 I) J (md_g g0 0 0 (mb_P (md_0 I) k2 l2 p2 mm t2 e1 e2 e3 e4 (nI w2) (nI s2) sc2 dt).2 1 k2 l2 p2 t2 (mm / (4 * l2)) 0) (mb_P (md_0 I) k2 l2 p2 mm t2 e1 e2 e3 e4 (nI w2) (nI s2) sc2 dt)) (md_g g0 0 0 76 1 k2 l2 p2 t2 (mm / (4 * l2)) 0) (md_g g0 0 0 64 1 k2 l2 p2 t2 (mm / (4 * l2)) 0) (mm / (4 * l2)) (2 * l2)).2 := by
  refine zk_M.intro (by decide) (lv := [some (.ref (zk_ad X 0)), some (.int (nI k2)), some (.int (nI l2)), some (.int (nI p2)), some (.int (nI mm)), some (.int (nI t2)), some (.int (nI w2)), some (.int (nI s2)), some (.int sc2), some (.int dt), none, none, none]) rfl rfl (fun E hC hR => ?_)
  have hI0 := md_0_g hI
  have hIo : ∀ a, a ≠ 0 → md_0 I a = I a := fun a ha => md_0_o ha
  have hsb := fl_sb h3 h4 h5 h6
  have hmul : nI 8 * nI l2 = nI (8 * l2) := pk_mul 8 l2
  have hek : md_0 I 1 s2 = nI e2 := by rw [md_0_o (by decide)]; exact he2
  refine zk_aload_n (pc' := 1) hC rfl ⟨dX5_begin_0, rfl⟩ ?_
  refine zk_iconst (pc' := 2) (x := nI 0) hC ⟨dX5_begin_1, rfl⟩ zc_iconst_0 ?_
  refine zk_puti (pc' := 5) hC fl_X5_50 fp_X5_0 (by first | decide | assumption | omega) (by first | rfl | assumption) rfl rfl rfl ⟨dX5_begin_2, rfl⟩ ?_
  change zk_A 1 X E 5 _ _ (md_0 I) J
  refine zk_iload_n (pc' := 6) hC rfl ⟨dX5_begin_5, rfl⟩ ?_
  refine zk_iconst (pc' := 7) (x := nI 0) hC ⟨dX5_begin_6, rfl⟩ zc_iconst_0 ?_
  refine zk_iconst (pc' := 8) (x := nI 2) hC ⟨dX5_begin_7, rfl⟩ zc_iconst_2 ?_
  refine zk_callS1 (pc' := 11) hC ml_X5_54 ms_X5_in (c_X5_in X _ J (nI k2) (nI 0) (nI 2)) (by decide) rfl rfl (Nat.le_of_ble_eq_true rfl) ⟨dX5_begin_8, rfl⟩ ?_
  rw [if_pos ((md_in_nI (by omega) (by decide) (by decide)).mpr ⟨Nat.zero_le _, h2⟩)]
  refine zk_if_eqN (pc' := 14) hC ⟨dX5_begin_11, rfl⟩ 103 (by decide) (by omega) (fun z => ?_) (fun z => ?_)
  · omega
  · refine zk_iload_n (pc' := 15) hC rfl ⟨dX5_begin_14, rfl⟩ ?_
    refine zk_iconst (pc' := 16) (x := nI 1) hC ⟨dX5_begin_15, rfl⟩ zc_iconst_1 ?_
    refine zk_iconst (pc' := 17) (x := nI 4) hC ⟨dX5_begin_16, rfl⟩ zc_iconst_4 ?_
    refine zk_callS1 (pc' := 20) hC ml_X5_54 ms_X5_in (c_X5_in X _ J (nI l2) (nI 1) (nI 4)) (by decide) rfl rfl (Nat.le_of_ble_eq_true rfl) ⟨dX5_begin_17, rfl⟩ ?_
    rw [if_pos ((md_in_nI (by omega) (by decide) (by decide)).mpr ⟨h3, h4⟩)]
    refine zk_if_eqN (pc' := 23) hC ⟨dX5_begin_20, rfl⟩ 103 (by decide) (by omega) (fun z => ?_) (fun z => ?_)
    · omega
    · refine zk_iload_n (pc' := 24) hC rfl ⟨dX5_begin_23, rfl⟩ ?_
      refine zk_iconst (pc' := 25) (x := nI 1) hC ⟨dX5_begin_24, rfl⟩ zc_iconst_1 ?_
      refine zk_iconst (pc' := 26) (x := nI 5) hC ⟨dX5_begin_25, rfl⟩ zc_iconst_5 ?_
      refine zk_callS1 (pc' := 29) hC ml_X5_54 ms_X5_in (c_X5_in X _ J (nI p2) (nI 1) (nI 5)) (by decide) rfl rfl (Nat.le_of_ble_eq_true rfl) ⟨dX5_begin_26, rfl⟩ ?_
      rw [if_pos ((md_in_nI (by omega) (by decide) (by decide)).mpr ⟨h9, h7⟩)]
      refine zk_if_eqN (pc' := 32) hC ⟨dX5_begin_29, rfl⟩ 103 (by decide) (by omega) (fun z => ?_) (fun z => ?_)
      · omega
      · refine zk_iload (pc' := 34) hC rfl ⟨dX5_begin_32, rfl⟩ ?_
        refine zk_bipush (pc' := 36) (x := nI 8) hC ⟨dX5_begin_34, rfl⟩ zc_bipush_8 ?_
        refine zk_iload_n (pc' := 37) hC rfl ⟨dX5_begin_36, rfl⟩ ?_
        first | refine zk_imulN (pc' := 38) hC ⟨dX5_begin_37, rfl⟩ ?_ | refine zk_imul (pc' := 38) hC ⟨dX5_begin_37, rfl⟩ ?_
        refine zk_sipush (pc' := 41) (x := nI 128) hC ⟨dX5_begin_38, rfl⟩ zc_sipush_128 ?_
        refine zk_callS1 (pc' := 44) hC ml_X5_54 ms_X5_in (c_X5_in X _ J (nI mm) (nI (8 * l2)) (nI 128)) (by decide) rfl rfl (Nat.le_of_ble_eq_true rfl) ⟨dX5_begin_41, rfl⟩ ?_
        rw [if_pos ((md_in_nI (by omega) (by omega) (by decide)).mpr ⟨h5, h6⟩)]
        refine zk_if_eqN (pc' := 47) hC ⟨dX5_begin_44, rfl⟩ 103 (by decide) (by omega) (fun z => ?_) (fun z => ?_)
        · omega
        · refine zk_iload (pc' := 49) hC rfl ⟨dX5_begin_47, rfl⟩ ?_
          refine zk_iconst (pc' := 50) (x := nI 4) hC ⟨dX5_begin_49, rfl⟩ zc_iconst_4 ?_
          refine zk_sipush (pc' := 53) (x := nI 128) hC ⟨dX5_begin_50, rfl⟩ zc_sipush_128 ?_
          refine zk_callS1 (pc' := 56) hC ml_X5_54 ms_X5_in (c_X5_in X _ J (nI t2) (nI 4) (nI 128)) (by decide) rfl rfl (Nat.le_of_ble_eq_true rfl) ⟨dX5_begin_53, rfl⟩ ?_
          rw [if_pos ((md_in_nI (by omega) (by decide) (by decide)).mpr ⟨h10, h8⟩)]
          refine zk_if_eqN (pc' := 59) hC ⟨dX5_begin_56, rfl⟩ 103 (by decide) (by omega) (fun z => ?_) (fun z => ?_)
          · omega
          · refine zk_iload (pc' := 61) hC rfl ⟨dX5_begin_59, rfl⟩ ?_
            refine zk_callS1 (pc' := 64) hC ml_X5_58 ms_X5_isRegister (c_X5_isRegister X _ J (nI w2)) (by decide) rfl rfl (Nat.le_of_ble_eq_true rfl) ⟨dX5_begin_61, rfl⟩ ?_
            rw [if_pos (is_r_nI hw2)]
            refine zk_if_eqN (pc' := 67) hC ⟨dX5_begin_64, rfl⟩ 103 (by decide) (by omega) (fun z => ?_) (fun z => ?_)
            · omega
            · refine zk_iload (pc' := 69) hC rfl ⟨dX5_begin_67, rfl⟩ ?_
              refine zk_callS1 (pc' := 72) hC ml_X5_58 ms_X5_isRegister (c_X5_isRegister X _ J (nI s2)) (by decide) rfl rfl (Nat.le_of_ble_eq_true rfl) ⟨dX5_begin_69, rfl⟩ ?_
              rw [if_pos (is_r_nI hs2)]
              refine zk_if_eqN (pc' := 75) hC ⟨dX5_begin_72, rfl⟩ 103 (by decide) (by omega) (fun z => ?_) (fun z => ?_)
              · omega
              · refine zk_iload (pc' := 77) hC rfl ⟨dX5_begin_75, rfl⟩ ?_
                refine zk_callS1 (pc' := 80) hC ml_X5_158 ms_X5_isPerhaps (c_X5_isPerhaps X _ J sc2) (by decide) rfl rfl (Nat.le_of_ble_eq_true rfl) ⟨dX5_begin_77, rfl⟩ ?_
                rw [if_pos hsc]
                refine zk_if_eqN (pc' := 83) hC ⟨dX5_begin_80, rfl⟩ 103 (by decide) (by omega) (fun z => ?_) (fun z => ?_)
                · omega
                · refine zk_iload (pc' := 85) hC rfl ⟨dX5_begin_83, rfl⟩ ?_
                  refine zk_callS1 (pc' := 88) hC ml_X5_158 ms_X5_isPerhaps (c_X5_isPerhaps X _ J dt) (by decide) rfl rfl (Nat.le_of_ble_eq_true rfl) ⟨dX5_begin_85, rfl⟩ ?_
                  rw [if_pos hdt]
                  refine zk_if_eqN (pc' := 91) hC ⟨dX5_begin_88, rfl⟩ 103 (by decide) (by omega) (fun z => ?_) (fun z => ?_)
                  · omega
                  · refine zk_aload_n (pc' := 92) hC rfl ⟨dX5_begin_91, rfl⟩ ?_
                    refine zk_getr (pc' := 95) hC fl_X5_7 (by first | decide | assumption | omega) (by first | rfl | assumption) rfl ⟨dX5_begin_92, rfl⟩ ?_
                    refine zk_iload (pc' := 97) hC rfl ⟨dX5_begin_95, rfl⟩ ?_
                    first | refine zk_ialdN (pc' := 98) hC (by first | decide | assumption | omega) (by first | rfl | assumption) (by omega) (by first | decide | omega) ⟨dX5_begin_97, rfl⟩ ?_ | refine zk_t0N (pc' := 98) hC (by omega) ⟨dX5_begin_97, rfl⟩ ?_ | refine zk_t2N (pc' := 98) hC (by omega) ⟨dX5_begin_97, rfl⟩ ?_
                    rw [hek]
                    refine zk_bipush (pc' := 100) (x := nI 8) hC ⟨dX5_begin_98, rfl⟩ zc_bipush_8 ?_
                    refine zk_icmp_geN (pc' := 103) hC ⟨dX5_begin_100, rfl⟩ 106 (by decide) (by omega) (by omega) (fun z6 => ?_) (fun z6 => ?_)
                    · have hq1 : is_r (nI w2) → md_0 I 1 (nI w2).toNatClampNeg = nI e1 := fun _ => by rw [md_0_o (by decide), nI_clamp (by omega)]; exact he1
                      have hq2 : is_r (nI s2) → md_0 I 1 (nI s2).toNatClampNeg = nI e2 := fun _ => by rw [md_0_o (by decide), nI_clamp (by omega)]; exact he2
                      have hq3 : is_r sc2 → md_0 I 1 sc2.toNatClampNeg = nI e3 := fun h => by rw [md_0_o (by decide)]; exact he3 h
                      have hq4 : is_r dt → md_0 I 1 dt.toNatClampNeg = nI e4 := fun h => by rw [md_0_o (by decide)]; exact he4 h
                      have hw0 : nI w2 = -1 → e1 = 0 := fun h => absurd (is_r_nI hw2) (by rw [h]; exact is_r_m1)
                      have hs0 : nI s2 = -1 → e2 = 0 := fun h => absurd (is_r_nI hs2) (by rw [h]; exact is_r_m1)
                      generalize hsE : mm / (4 * l2) = s at hsb hR
                      generalize md_0 I = I0 at hI0 hq1 hq2 hq3 hq4 hR ⊢
                      refine zk_eqI (I' := zk_u I0 0 (md_g g0 (0) (0) sz bg kd ln ps tg sc dn)) (by rw [← hI0, zk_u_self]) ?_
                      refine zk_aload_n (pc' := 107) hC rfl ⟨dX5_begin_106, rfl⟩ ?_
                      refine zk_iconst (pc' := 108) (x := nI 1) hC ⟨dX5_begin_107, rfl⟩ zc_iconst_1 ?_
                      refine zk_puti (pc' := 111) hC fl_X5_161 fp_X5_11 (by first | decide | assumption | omega) (by first | rfl | assumption) rfl rfl rfl ⟨dX5_begin_108, rfl⟩ ?_
                      rw [zk_u_s, zk_u_u, md_p11]
                      refine zk_aload_n (pc' := 112) hC rfl ⟨dX5_begin_111, rfl⟩ ?_
                      refine zk_iload_n (pc' := 113) hC rfl ⟨dX5_begin_112, rfl⟩ ?_
                      refine zk_puti (pc' := 116) hC fl_X5_165 fp_X5_12 (by first | decide | assumption | omega) (by first | rfl | assumption) rfl rfl rfl ⟨dX5_begin_113, rfl⟩ ?_
                      rw [zk_u_s, zk_u_u, md_p12]
                      refine zk_aload_n (pc' := 117) hC rfl ⟨dX5_begin_116, rfl⟩ ?_
                      refine zk_iload_n (pc' := 118) hC rfl ⟨dX5_begin_117, rfl⟩ ?_
                      refine zk_puti (pc' := 121) hC fl_X5_168 fp_X5_13 (by first | decide | assumption | omega) (by first | rfl | assumption) rfl rfl rfl ⟨dX5_begin_118, rfl⟩ ?_
                      rw [zk_u_s, zk_u_u, md_p13]
                      refine zk_aload_n (pc' := 122) hC rfl ⟨dX5_begin_121, rfl⟩ ?_
                      refine zk_iload_n (pc' := 123) hC rfl ⟨dX5_begin_122, rfl⟩ ?_
                      refine zk_puti (pc' := 126) hC fl_X5_171 fp_X5_14 (by first | decide | assumption | omega) (by first | rfl | assumption) rfl rfl rfl ⟨dX5_begin_123, rfl⟩ ?_
                      rw [zk_u_s, zk_u_u, md_p14]
                      refine zk_aload_n (pc' := 127) hC rfl ⟨dX5_begin_126, rfl⟩ ?_
                      refine zk_iload (pc' := 129) hC rfl ⟨dX5_begin_127, rfl⟩ ?_
                      refine zk_puti (pc' := 132) hC fl_X5_174 fp_X5_15 (by first | decide | assumption | omega) (by first | rfl | assumption) rfl rfl rfl ⟨dX5_begin_129, rfl⟩ ?_
                      rw [zk_u_s, zk_u_u, md_p15]
                      refine zk_aload_n (pc' := 133) hC rfl ⟨dX5_begin_132, rfl⟩ ?_
                      refine zk_iload (pc' := 135) hC rfl ⟨dX5_begin_133, rfl⟩ ?_
                      refine zk_iconst (pc' := 136) (x := nI 4) hC ⟨dX5_begin_135, rfl⟩ zc_iconst_4 ?_
                      refine zk_iload_n (pc' := 137) hC rfl ⟨dX5_begin_136, rfl⟩ ?_
                      first | refine zk_imulN (pc' := 138) hC ⟨dX5_begin_137, rfl⟩ ?_ | refine zk_imul (pc' := 138) hC ⟨dX5_begin_137, rfl⟩ ?_
                      first | refine zk_idivN (pc' := 139) hC ⟨dX5_begin_138, rfl⟩ (by omega) (by omega) (by omega) ?_ | refine zk_idiv (pc' := 139) hC ⟨dX5_begin_138, rfl⟩ (by first | assumption | decide) ?_
                      rw [hsE]
                      refine zk_puti (pc' := 142) hC fl_X5_177 fp_X5_16 (by first | decide | assumption | omega) (by first | rfl | assumption) rfl rfl rfl ⟨dX5_begin_139, rfl⟩ ?_
                      rw [zk_u_s, zk_u_u, md_p16]
                      refine zk_aload_n (pc' := 143) hC rfl ⟨dX5_begin_142, rfl⟩ ?_
                      refine zk_iconst (pc' := 144) (x := nI 0) hC ⟨dX5_begin_143, rfl⟩ zc_iconst_0 ?_
                      refine zk_puti (pc' := 147) hC fl_X5_180 fp_X5_17 (by first | decide | assumption | omega) (by first | rfl | assumption) rfl rfl rfl ⟨dX5_begin_144, rfl⟩ ?_
                      rw [zk_u_s, zk_u_u, md_p17]
                      refine zk_aload_n (pc' := 148) hC rfl ⟨dX5_begin_147, rfl⟩ ?_
                      refine zk_iconst (pc' := 149) (x := nI 0) hC ⟨dX5_begin_148, rfl⟩ zc_iconst_0 ?_
                      refine zk_puti (pc' := 152) hC fl_X5_109 fp_X5_5 (by first | decide | assumption | omega) (by first | rfl | assumption) rfl rfl rfl ⟨dX5_begin_149, rfl⟩ ?_
                      rw [zk_u_s, zk_u_u, md_p5]
                      have hPd : mb_P I0 k2 l2 p2 mm t2 e1 e2 e3 e4 (nI w2) (nI s2) sc2 dt = md_po (md_po (md_po (md_po (md_p4 (md_p4 (md_p4 (md_p4 (md_p4 (md_p4 (I0 4, 0) (lN l2)) (lN t2)) (lN mm)) (lN p2)) 19) (lN k2)) e1 (md_rb I0 (nI w2).toNatClampNeg)) e2 (md_rb I0 (nI s2).toNatClampNeg)) e3 (md_rb I0 sc2.toNatClampNeg)) e4 (md_rb I0 dt.toNatClampNeg) := rfl
                      generalize mb_P I0 k2 l2 p2 mm t2 e1 e2 e3 e4 (nI w2) (nI s2) sc2 dt = PP at hPd hR
                      refine zk_eqI (I' := mdm I0 ((I0 4, 0) : md_P).1 (md_g g0 0 0 (((I0 4, 0) : md_P).2) 1 k2 l2 p2 t2 s 0)) (by rw [mdm, zk_u_self]) ?_
                      have hz0 : ((I0 4, 0) : md_P).2 = 0 := rfl
                      generalize ((I0 4, 0) : md_P) = P0 at hPd hz0 ⊢
                      have hI := mdm_0 (I := I0) (f := P0.1) (g := (md_g g0 0 0 (P0.2) 1 k2 l2 p2 t2 s 0))
                      refine zk_aload_n (pc' := 153) hC rfl ⟨dX5_begin_152, rfl⟩ ?_
                      refine zk_iconst (pc' := 154) (x := nI 4) hC ⟨dX5_begin_153, rfl⟩ zc_iconst_4 ?_
                      refine zk_aload_n (pc' := 155) hC rfl ⟨dX5_begin_154, rfl⟩ ?_
                      first | refine zk_getiN (pc' := 158) hC fl_X5_168 (by first | decide | assumption | omega) (by first | rfl | assumption) rfl (by first | assumption | (rw [zk_u_s]; rfl) | (rw [hI]; rfl)) ⟨dX5_begin_155, rfl⟩ ?_ | refine zk_geti (pc' := 158) hC fl_X5_168 (by first | decide | assumption | omega) (by first | rfl | assumption) rfl ⟨dX5_begin_155, rfl⟩ ?_
                      first | refine zk_i2lN (pc' := 159) hC ⟨dX5_begin_158, rfl⟩ (by omega) ?_ | refine zk_i2l (pc' := 159) hC ⟨dX5_begin_158, rfl⟩ ?_
                      refine zk_callV0 (pc' := 162) hC ml_X5_144 mi_X5_put (c_X5_put X _ J hI (n := 4) (lN l2) (by decide) (by omega)) (by decide) (by first | decide | assumption | omega) (by first | rfl | assumption) rfl rfl rfl (Nat.le_of_ble_eq_true rfl) ⟨dX5_begin_159, rfl⟩ ?_
                      rw [mdm_4, mdm_mdm]
                      change zk_A 1 X E 162 _ _ (mdm I0 (md_p4 P0 (lN l2)).1 (md_g g0 0 0 ((md_p4 P0 (lN l2)).2) 1 k2 l2 p2 t2 s 0)) J
                      have hz1 : (md_p4 P0 (lN l2)).2 = 4 := by rw [md_p4]; dsimp only; omega
                      generalize md_p4 P0 (lN l2) = P1 at hPd hz1 ⊢
                      have hI := mdm_0 (I := I0) (f := P1.1) (g := (md_g g0 0 0 (P1.2) 1 k2 l2 p2 t2 s 0))
                      refine zk_aload_n (pc' := 163) hC rfl ⟨dX5_begin_162, rfl⟩ ?_
                      refine zk_iconst (pc' := 164) (x := nI 4) hC ⟨dX5_begin_163, rfl⟩ zc_iconst_4 ?_
                      refine zk_aload_n (pc' := 165) hC rfl ⟨dX5_begin_164, rfl⟩ ?_
                      first | refine zk_getiN (pc' := 168) hC fl_X5_174 (by first | decide | assumption | omega) (by first | rfl | assumption) rfl (by first | assumption | (rw [zk_u_s]; rfl) | (rw [hI]; rfl)) ⟨dX5_begin_165, rfl⟩ ?_ | refine zk_geti (pc' := 168) hC fl_X5_174 (by first | decide | assumption | omega) (by first | rfl | assumption) rfl ⟨dX5_begin_165, rfl⟩ ?_
                      first | refine zk_i2lN (pc' := 169) hC ⟨dX5_begin_168, rfl⟩ (by omega) ?_ | refine zk_i2l (pc' := 169) hC ⟨dX5_begin_168, rfl⟩ ?_
                      refine zk_callV0 (pc' := 172) hC ml_X5_144 mi_X5_put (c_X5_put X _ J hI (n := 4) (lN t2) (by decide) (by omega)) (by decide) (by first | decide | assumption | omega) (by first | rfl | assumption) rfl rfl rfl (Nat.le_of_ble_eq_true rfl) ⟨dX5_begin_169, rfl⟩ ?_
                      rw [mdm_4, mdm_mdm]
                      change zk_A 1 X E 172 _ _ (mdm I0 (md_p4 P1 (lN t2)).1 (md_g g0 0 0 ((md_p4 P1 (lN t2)).2) 1 k2 l2 p2 t2 s 0)) J
                      have hz2 : (md_p4 P1 (lN t2)).2 = 8 := by rw [md_p4]; dsimp only; omega
                      generalize md_p4 P1 (lN t2) = P2 at hPd hz2 ⊢
                      have hI := mdm_0 (I := I0) (f := P2.1) (g := (md_g g0 0 0 (P2.2) 1 k2 l2 p2 t2 s 0))
                      refine zk_aload_n (pc' := 173) hC rfl ⟨dX5_begin_172, rfl⟩ ?_
                      refine zk_iconst (pc' := 174) (x := nI 4) hC ⟨dX5_begin_173, rfl⟩ zc_iconst_4 ?_
                      refine zk_iload (pc' := 176) hC rfl ⟨dX5_begin_174, rfl⟩ ?_
                      first | refine zk_i2lN (pc' := 177) hC ⟨dX5_begin_176, rfl⟩ (by omega) ?_ | refine zk_i2l (pc' := 177) hC ⟨dX5_begin_176, rfl⟩ ?_
                      refine zk_callV0 (pc' := 180) hC ml_X5_144 mi_X5_put (c_X5_put X _ J hI (n := 4) (lN mm) (by decide) (by omega)) (by decide) (by first | decide | assumption | omega) (by first | rfl | assumption) rfl rfl rfl (Nat.le_of_ble_eq_true rfl) ⟨dX5_begin_177, rfl⟩ ?_
                      rw [mdm_4, mdm_mdm]
                      change zk_A 1 X E 180 _ _ (mdm I0 (md_p4 P2 (lN mm)).1 (md_g g0 0 0 ((md_p4 P2 (lN mm)).2) 1 k2 l2 p2 t2 s 0)) J
                      have hz3 : (md_p4 P2 (lN mm)).2 = 12 := by rw [md_p4]; dsimp only; omega
                      generalize md_p4 P2 (lN mm) = P3 at hPd hz3 ⊢
                      have hI := mdm_0 (I := I0) (f := P3.1) (g := (md_g g0 0 0 (P3.2) 1 k2 l2 p2 t2 s 0))
                      refine zk_aload_n (pc' := 181) hC rfl ⟨dX5_begin_180, rfl⟩ ?_
                      refine zk_iconst (pc' := 182) (x := nI 4) hC ⟨dX5_begin_181, rfl⟩ zc_iconst_4 ?_
                      refine zk_aload_n (pc' := 183) hC rfl ⟨dX5_begin_182, rfl⟩ ?_
                      first | refine zk_getiN (pc' := 186) hC fl_X5_171 (by first | decide | assumption | omega) (by first | rfl | assumption) rfl (by first | assumption | (rw [zk_u_s]; rfl) | (rw [hI]; rfl)) ⟨dX5_begin_183, rfl⟩ ?_ | refine zk_geti (pc' := 186) hC fl_X5_171 (by first | decide | assumption | omega) (by first | rfl | assumption) rfl ⟨dX5_begin_183, rfl⟩ ?_
                      first | refine zk_i2lN (pc' := 187) hC ⟨dX5_begin_186, rfl⟩ (by omega) ?_ | refine zk_i2l (pc' := 187) hC ⟨dX5_begin_186, rfl⟩ ?_
                      refine zk_callV0 (pc' := 190) hC ml_X5_144 mi_X5_put (c_X5_put X _ J hI (n := 4) (lN p2) (by decide) (by omega)) (by decide) (by first | decide | assumption | omega) (by first | rfl | assumption) rfl rfl rfl (Nat.le_of_ble_eq_true rfl) ⟨dX5_begin_187, rfl⟩ ?_
                      rw [mdm_4, mdm_mdm]
                      change zk_A 1 X E 190 _ _ (mdm I0 (md_p4 P3 (lN p2)).1 (md_g g0 0 0 ((md_p4 P3 (lN p2)).2) 1 k2 l2 p2 t2 s 0)) J
                      have hz4 : (md_p4 P3 (lN p2)).2 = 16 := by rw [md_p4]; dsimp only; omega
                      generalize md_p4 P3 (lN p2) = P4 at hPd hz4 ⊢
                      have hI := mdm_0 (I := I0) (f := P4.1) (g := (md_g g0 0 0 (P4.2) 1 k2 l2 p2 t2 s 0))
                      refine zk_aload_n (pc' := 191) hC rfl ⟨dX5_begin_190, rfl⟩ ?_
                      refine zk_iconst (pc' := 192) (x := nI 4) hC ⟨dX5_begin_191, rfl⟩ zc_iconst_4 ?_
                      refine zk_ldc2 (pc' := 195) (x := 19) hC ⟨dX5_begin_192, rfl⟩ kl_X5_183 ?_
                      refine zk_callV0 (pc' := 198) hC ml_X5_144 mi_X5_put (c_X5_put X _ J hI (n := 4) 19 (by decide) (by omega)) (by decide) (by first | decide | assumption | omega) (by first | rfl | assumption) rfl rfl rfl (Nat.le_of_ble_eq_true rfl) ⟨dX5_begin_195, rfl⟩ ?_
                      rw [mdm_4, mdm_mdm]
                      change zk_A 1 X E 198 _ _ (mdm I0 (md_p4 P4 19).1 (md_g g0 0 0 ((md_p4 P4 19).2) 1 k2 l2 p2 t2 s 0)) J
                      have hz5 : (md_p4 P4 19).2 = 20 := by rw [md_p4]; dsimp only; omega
                      generalize md_p4 P4 19 = P5 at hPd hz5 ⊢
                      have hI := mdm_0 (I := I0) (f := P5.1) (g := (md_g g0 0 0 (P5.2) 1 k2 l2 p2 t2 s 0))
                      refine zk_aload_n (pc' := 199) hC rfl ⟨dX5_begin_198, rfl⟩ ?_
                      refine zk_iconst (pc' := 200) (x := nI 4) hC ⟨dX5_begin_199, rfl⟩ zc_iconst_4 ?_
                      refine zk_aload_n (pc' := 201) hC rfl ⟨dX5_begin_200, rfl⟩ ?_
                      first | refine zk_getiN (pc' := 204) hC fl_X5_165 (by first | decide | assumption | omega) (by first | rfl | assumption) rfl (by first | assumption | (rw [zk_u_s]; rfl) | (rw [hI]; rfl)) ⟨dX5_begin_201, rfl⟩ ?_ | refine zk_geti (pc' := 204) hC fl_X5_165 (by first | decide | assumption | omega) (by first | rfl | assumption) rfl ⟨dX5_begin_201, rfl⟩ ?_
                      first | refine zk_i2lN (pc' := 205) hC ⟨dX5_begin_204, rfl⟩ (by omega) ?_ | refine zk_i2l (pc' := 205) hC ⟨dX5_begin_204, rfl⟩ ?_
                      refine zk_callV0 (pc' := 208) hC ml_X5_144 mi_X5_put (c_X5_put X _ J hI (n := 4) (lN k2) (by decide) (by omega)) (by decide) (by first | decide | assumption | omega) (by first | rfl | assumption) rfl rfl rfl (Nat.le_of_ble_eq_true rfl) ⟨dX5_begin_205, rfl⟩ ?_
                      rw [mdm_4, mdm_mdm]
                      change zk_A 1 X E 208 _ _ (mdm I0 (md_p4 P5 (lN k2)).1 (md_g g0 0 0 ((md_p4 P5 (lN k2)).2) 1 k2 l2 p2 t2 s 0)) J
                      have hz6 : (md_p4 P5 (lN k2)).2 = 24 := by rw [md_p4]; dsimp only; omega
                      generalize md_p4 P5 (lN k2) = P6 at hPd hz6 ⊢
                      have hI := mdm_0 (I := I0) (f := P6.1) (g := (md_g g0 0 0 (P6.2) 1 k2 l2 p2 t2 s 0))
                      refine zk_aload_n (pc' := 209) hC rfl ⟨dX5_begin_208, rfl⟩ ?_
                      refine zk_iload (pc' := 211) hC rfl ⟨dX5_begin_209, rfl⟩ ?_
                      refine zk_callV0 (pc' := 214) hC ml_X5_185 mi_X5_putOwn (c_X5_putOwn X _ J hI (e := e1) (nI w2) (Or.inr (is_r_nI hw2)) (fun h => by rw [mdm_o (by decide) (by decide)]; exact hq1 h) hw0 (by omega) (by omega)) (by decide) (by first | decide | assumption | omega) (by first | rfl | assumption) rfl rfl rfl (Nat.le_of_ble_eq_true rfl) ⟨dX5_begin_211, rfl⟩ ?_
                      rw [mdm_4, mdm_mdm, show md_rb (mdm I0 P6.1 (md_g g0 0 0 (P6.2) 1 k2 l2 p2 t2 s 0)) (nI w2).toNatClampNeg = md_rb I0 (nI w2).toNatClampNeg by unfold md_rb; rw [mdm_o (by decide) (by decide)]]
                      change zk_A 1 X E 214 _ _ (mdm I0 (md_po P6 e1 (md_rb I0 (nI w2).toNatClampNeg)).1 (md_g g0 0 0 ((md_po P6 e1 (md_rb I0 (nI w2).toNatClampNeg)).2) 1 k2 l2 p2 t2 s 0)) J
                      have hz7 : (md_po P6 e1 (md_rb I0 (nI w2).toNatClampNeg)).2 = 24 + 4 + e1 := by rw [md_po]; dsimp only; omega
                      generalize md_po P6 e1 (md_rb I0 (nI w2).toNatClampNeg) = P7 at hPd hz7 ⊢
                      have hI := mdm_0 (I := I0) (f := P7.1) (g := (md_g g0 0 0 (P7.2) 1 k2 l2 p2 t2 s 0))
                      refine zk_aload_n (pc' := 215) hC rfl ⟨dX5_begin_214, rfl⟩ ?_
                      refine zk_iload (pc' := 217) hC rfl ⟨dX5_begin_215, rfl⟩ ?_
                      refine zk_callV0 (pc' := 220) hC ml_X5_185 mi_X5_putOwn (c_X5_putOwn X _ J hI (e := e2) (nI s2) (Or.inr (is_r_nI hs2)) (fun h => by rw [mdm_o (by decide) (by decide)]; exact hq2 h) hs0 (by omega) (by omega)) (by decide) (by first | decide | assumption | omega) (by first | rfl | assumption) rfl rfl rfl (Nat.le_of_ble_eq_true rfl) ⟨dX5_begin_217, rfl⟩ ?_
                      rw [mdm_4, mdm_mdm, show md_rb (mdm I0 P7.1 (md_g g0 0 0 (P7.2) 1 k2 l2 p2 t2 s 0)) (nI s2).toNatClampNeg = md_rb I0 (nI s2).toNatClampNeg by unfold md_rb; rw [mdm_o (by decide) (by decide)]]
                      change zk_A 1 X E 220 _ _ (mdm I0 (md_po P7 e2 (md_rb I0 (nI s2).toNatClampNeg)).1 (md_g g0 0 0 ((md_po P7 e2 (md_rb I0 (nI s2).toNatClampNeg)).2) 1 k2 l2 p2 t2 s 0)) J
                      have hz8 : (md_po P7 e2 (md_rb I0 (nI s2).toNatClampNeg)).2 = 24 + 4 + e1 + 4 + e2 := by rw [md_po]; dsimp only; omega
                      generalize md_po P7 e2 (md_rb I0 (nI s2).toNatClampNeg) = P8 at hPd hz8 ⊢
                      have hI := mdm_0 (I := I0) (f := P8.1) (g := (md_g g0 0 0 (P8.2) 1 k2 l2 p2 t2 s 0))
                      refine zk_aload_n (pc' := 221) hC rfl ⟨dX5_begin_220, rfl⟩ ?_
                      refine zk_iload (pc' := 223) hC rfl ⟨dX5_begin_221, rfl⟩ ?_
                      refine zk_callV0 (pc' := 226) hC ml_X5_185 mi_X5_putOwn (c_X5_putOwn X _ J hI (e := e3) sc2 hsc (fun h => by rw [mdm_o (by decide) (by decide)]; exact hq3 h) he30 (by omega) (by omega)) (by decide) (by first | decide | assumption | omega) (by first | rfl | assumption) rfl rfl rfl (Nat.le_of_ble_eq_true rfl) ⟨dX5_begin_223, rfl⟩ ?_
                      rw [mdm_4, mdm_mdm, show md_rb (mdm I0 P8.1 (md_g g0 0 0 (P8.2) 1 k2 l2 p2 t2 s 0)) sc2.toNatClampNeg = md_rb I0 sc2.toNatClampNeg by unfold md_rb; rw [mdm_o (by decide) (by decide)]]
                      change zk_A 1 X E 226 _ _ (mdm I0 (md_po P8 e3 (md_rb I0 sc2.toNatClampNeg)).1 (md_g g0 0 0 ((md_po P8 e3 (md_rb I0 sc2.toNatClampNeg)).2) 1 k2 l2 p2 t2 s 0)) J
                      have hz9 : (md_po P8 e3 (md_rb I0 sc2.toNatClampNeg)).2 = 24 + 4 + e1 + 4 + e2 + 4 + e3 := by rw [md_po]; dsimp only; omega
                      generalize md_po P8 e3 (md_rb I0 sc2.toNatClampNeg) = P9 at hPd hz9 ⊢
                      have hI := mdm_0 (I := I0) (f := P9.1) (g := (md_g g0 0 0 (P9.2) 1 k2 l2 p2 t2 s 0))
                      refine zk_aload_n (pc' := 227) hC rfl ⟨dX5_begin_226, rfl⟩ ?_
                      refine zk_iload (pc' := 229) hC rfl ⟨dX5_begin_227, rfl⟩ ?_
                      refine zk_callV0 (pc' := 232) hC ml_X5_185 mi_X5_putOwn (c_X5_putOwn X _ J hI (e := e4) dt hdt (fun h => by rw [mdm_o (by decide) (by decide)]; exact hq4 h) he40 (by omega) (by omega)) (by decide) (by first | decide | assumption | omega) (by first | rfl | assumption) rfl rfl rfl (Nat.le_of_ble_eq_true rfl) ⟨dX5_begin_229, rfl⟩ ?_
                      rw [mdm_4, mdm_mdm, show md_rb (mdm I0 P9.1 (md_g g0 0 0 (P9.2) 1 k2 l2 p2 t2 s 0)) dt.toNatClampNeg = md_rb I0 dt.toNatClampNeg by unfold md_rb; rw [mdm_o (by decide) (by decide)]]
                      change zk_A 1 X E 232 _ _ (mdm I0 (md_po P9 e4 (md_rb I0 dt.toNatClampNeg)).1 (md_g g0 0 0 ((md_po P9 e4 (md_rb I0 dt.toNatClampNeg)).2) 1 k2 l2 p2 t2 s 0)) J
                      have hz10 : (md_po P9 e4 (md_rb I0 dt.toNatClampNeg)).2 = 24 + 4 + e1 + 4 + e2 + 4 + e3 + 4 + e4 := by rw [md_po]; dsimp only; omega
                      generalize md_po P9 e4 (md_rb I0 dt.toNatClampNeg) = P10 at hPd hz10 ⊢
                      rw [← hPd] at hz10 ⊢
                      have hI := mdm_0 (I := I0) (f := PP.1) (g := (md_g g0 0 0 (PP.2) 1 k2 l2 p2 t2 s 0))
                      refine zk_aload_n (pc' := 233) hC rfl ⟨dX5_begin_232, rfl⟩ ?_
                      refine zk_iconst (pc' := 234) (x := nI 0) hC ⟨dX5_begin_233, rfl⟩ zc_iconst_0 ?_
                      refine zk_bipush (pc' := 236) (x := nI 64) hC ⟨dX5_begin_234, rfl⟩ zc_bipush_64 ?_
                      refine zk_callV0 (pc' := 239) hC ml_X5_140 mi_X5_hashTo (c_X5_hashTo X _ J hI (pl := 0) (n := 64) (by decide) (by omega) (by decide) (by decide)) (by decide) (by first | decide | assumption | omega) (by first | rfl | assumption) rfl rfl rfl (Nat.le_of_ble_eq_true rfl) ⟨dX5_begin_236, rfl⟩ ?_
                      rw [mdm_4, mdm_o (show 3 ≠ 0 by decide) (show 3 ≠ 4 by decide)]
                      unfold mb_s at hR
                      have hH0 := md_HI_0 (I := mdm I0 PP.1 (md_g g0 0 0 (PP.2) 1 k2 l2 p2 t2 s 0)) (J := md_dg (md_b (I0 3) PP.1 0 PP.2) 0 PP.2 64 J) (g := (md_g g0 0 0 (PP.2) 1 k2 l2 p2 t2 s 0)) (pl := 0) (n := 64)
                      generalize md_HI (mdm I0 PP.1 (md_g g0 0 0 (PP.2) 1 k2 l2 p2 t2 s 0)) (md_dg (md_b (I0 3) PP.1 0 PP.2) 0 PP.2 64 J) (md_g g0 0 0 (PP.2) 1 k2 l2 p2 t2 s 0) 0 64 = I2 at hR hH0 ⊢
                      generalize md_dg (md_b (I0 3) PP.1 0 PP.2) 0 PP.2 64 J = J1 at hR ⊢
                      refine zk_iconst (pc' := 240) (x := nI 0) hC ⟨dX5_begin_239, rfl⟩ zc_iconst_0 ?_
                      refine zk_is10 (pc' := 242) hC ⟨dX5_begin_240, rfl⟩ rfl ?_
                      refine zk_eqJ (J' := zk_u J1 13 (fz_fill (J1 13) (fun k => (I2 8 k).toInt64) 0)) (by rw [fz_0, zk_u_self]) ?_
                      refine zk_up (P := fun k => zk_A 1 X E 242 [some (.ref (zk_ad X 0)), some (.int (nI k2)), some (.int (nI l2)), some (.int (nI p2)), some (.int (nI mm)), some (.int (nI t2)), some (.int (nI w2)), some (.int (nI s2)), some (.int sc2), some (.int dt), some (.int (nI k)), none, none] [] I2 (zk_u J1 13 (fz_fill (J1 13) (fun k => (I2 8 k).toInt64) k))) 64 ?_ (fun k hk ih => ?_)
                      · skip
                        refine zk_iload (pc' := 244) hC rfl ⟨dX5_begin_242, rfl⟩ ?_
                        refine zk_bipush (pc' := 246) (x := nI 64) hC ⟨dX5_begin_244, rfl⟩ zc_bipush_64 ?_
                        refine zk_icmp_geN (pc' := 249) hC ⟨dX5_begin_246, rfl⟩ 270 (by decide) (by omega) (by omega) (fun q2 => ?_) (fun q2 => ?_)
                        · unfold mb_J at hR
                          generalize fz_fill (J1 13) (fun k => (I2 8 k).toInt64) 64 = a0 at hR ⊢
                          refine zk_iconst (pc' := 271) (x := nI 0) hC ⟨dX5_begin_270, rfl⟩ zc_iconst_0 ?_
                          refine zk_is10 (pc' := 273) hC ⟨dX5_begin_271, rfl⟩ rfl ?_
                          refine zk_eqJ (J' := zk_u (zk_u J1 13 a0) 9 (fz_fill (J1 9) (fun _ => lN 0) 0)) (by rw [fz_0, ← zk_u_n (I := J1) (k := 13) (g := a0) (show 9 ≠ 13 by decide), zk_u_self]) ?_
                          refine zk_up (P := fun k => zk_A 1 X E 273 [some (.ref (zk_ad X 0)), some (.int (nI k2)), some (.int (nI l2)), some (.int (nI p2)), some (.int (nI mm)), some (.int (nI t2)), some (.int (nI w2)), some (.int (nI s2)), some (.int sc2), some (.int dt), some (.int (nI k)), none, none] [] I2 (zk_u (zk_u J1 13 a0) 9 (fz_fill (J1 9) (fun _ => lN 0) k))) 16384 ?_ (fun k hk ih => ?_)
                          · skip
                            refine zk_iload (pc' := 275) hC rfl ⟨dX5_begin_273, rfl⟩ ?_
                            refine zk_sipush (pc' := 278) (x := nI 16384) hC ⟨dX5_begin_275, rfl⟩ zc_sipush_16384 ?_
                            refine zk_icmp_geN (pc' := 281) hC ⟨dX5_begin_278, rfl⟩ 295 (by decide) (by omega) (by omega) (fun q3 => ?_) (fun q3 => ?_)
                            · generalize zk_u (zk_u J1 13 a0) 9 (fz_fill (J1 9) (fun _ => lN 0) 16384) = J2 at hR ⊢
                              have hgq : ∀ q, ∃ z, (mb (I2, J2) (md_g g0 0 0 (76) 1 k2 l2 p2 t2 s 0) (md_g g0 0 0 (64) 1 k2 l2 p2 t2 s 0) s q).1 0 = (md_g g0 0 0 (z) 1 k2 l2 p2 t2 s 0) := fun q => by
                                cases q with
                                | zero => exact ⟨_, hH0⟩
                                | succ q =>
                                  refine ⟨64, ?_⟩
                                  rw [mb]
                                  exact mb_1_g
                              refine zk_iconst (pc' := 296) (x := nI 0) hC ⟨dX5_begin_295, rfl⟩ zc_iconst_0 ?_
                              refine zk_is10 (pc' := 298) hC ⟨dX5_begin_296, rfl⟩ rfl ?_
                              refine zk_up (P := fun i => zk_A 1 X E 298 [some (.ref (zk_ad X 0)), some (.int (nI k2)), some (.int (nI l2)), some (.int (nI p2)), some (.int (nI mm)), some (.int (nI t2)), some (.int (nI w2)), some (.int (nI s2)), some (.int sc2), some (.int dt), some (.int (nI i)), none, none] [] (mb (I2, J2) (md_g g0 0 0 (76) 1 k2 l2 p2 t2 s 0) (md_g g0 0 0 (64) 1 k2 l2 p2 t2 s 0) s (2 * i)).1 (mb (I2, J2) (md_g g0 0 0 (76) 1 k2 l2 p2 t2 s 0) (md_g g0 0 0 (64) 1 k2 l2 p2 t2 s 0) s (2 * i)).2) l2 ?_ (fun i hi ih => ?_)
                              · skip
                                obtain ⟨z, hI⟩ := hgq (2 * l2)
                                refine zk_iload (pc' := 300) hC rfl ⟨dX5_begin_298, rfl⟩ ?_
                                refine zk_aload_n (pc' := 301) hC rfl ⟨dX5_begin_300, rfl⟩ ?_
                                first | refine zk_getiN (pc' := 304) hC fl_X5_168 (by first | decide | assumption | omega) (by first | rfl | assumption) rfl (by first | assumption | (rw [zk_u_s]; rfl) | (rw [hI]; rfl)) ⟨dX5_begin_301, rfl⟩ ?_ | refine zk_geti (pc' := 304) hC fl_X5_168 (by first | decide | assumption | omega) (by first | rfl | assumption) rfl ⟨dX5_begin_301, rfl⟩ ?_
                                refine zk_icmp_geN (pc' := 307) hC ⟨dX5_begin_304, rfl⟩ 448 (by decide) (by omega) (by omega) (fun q4 => ?_) (fun q4 => ?_)
                                · refine zk_iconst (pc' := 449) (x := nI 4) hC ⟨dX5_begin_448, rfl⟩ zc_iconst_4 ?_
                                  refine zk_aload_n (pc' := 450) hC rfl ⟨dX5_begin_449, rfl⟩ ?_
                                  first | refine zk_getiN (pc' := 453) hC fl_X5_177 (by first | decide | assumption | omega) (by first | rfl | assumption) rfl (by first | assumption | (rw [zk_u_s]; rfl) | (rw [hI]; rfl)) ⟨dX5_begin_450, rfl⟩ ?_ | refine zk_geti (pc' := 453) hC fl_X5_177 (by first | decide | assumption | omega) (by first | rfl | assumption) rfl ⟨dX5_begin_450, rfl⟩ ?_
                                  first | refine zk_imulN (pc' := 454) hC ⟨dX5_begin_453, rfl⟩ ?_ | refine zk_imul (pc' := 454) hC ⟨dX5_begin_453, rfl⟩ ?_
                                  refine zk_aload_n (pc' := 455) hC rfl ⟨dX5_begin_454, rfl⟩ ?_
                                  first | refine zk_getiN (pc' := 458) hC fl_X5_168 (by first | decide | assumption | omega) (by first | rfl | assumption) rfl (by first | assumption | (rw [zk_u_s]; rfl) | (rw [hI]; rfl)) ⟨dX5_begin_455, rfl⟩ ?_ | refine zk_geti (pc' := 458) hC fl_X5_168 (by first | decide | assumption | omega) (by first | rfl | assumption) rfl ⟨dX5_begin_455, rfl⟩ ?_
                                  first | refine zk_imulN (pc' := 459) hC ⟨dX5_begin_458, rfl⟩ ?_ | refine zk_imul (pc' := 459) hC ⟨dX5_begin_458, rfl⟩ ?_
                                  exact zk_iret (pc' := 460) hC hR rfl rfl rfl ⟨dX5_begin_459, rfl⟩
                                · omega
                              · skip
                                obtain ⟨z, hI⟩ := hgq (2 * i)
                                have hml : 4 * s * i + 4 * s ≤ 4 * s * l2 := by have := Nat.mul_le_mul_left (4 * s) (show i + 1 ≤ l2 from hi); rwa [Nat.mul_add, Nat.mul_one] at this
                                have hnb : 4 * s * l2 ≤ 128 := by rw [Nat.mul_comm]; exact hsb.2.2
                                refine zk_iload (pc' := 300) hC rfl ⟨dX5_begin_298, rfl⟩ ?_
                                refine zk_aload_n (pc' := 301) hC rfl ⟨dX5_begin_300, rfl⟩ ?_
                                first | refine zk_getiN (pc' := 304) hC fl_X5_168 (by first | decide | assumption | omega) (by first | rfl | assumption) rfl (by first | assumption | (rw [zk_u_s]; rfl) | (rw [hI]; rfl)) ⟨dX5_begin_301, rfl⟩ ?_ | refine zk_geti (pc' := 304) hC fl_X5_168 (by first | decide | assumption | omega) (by first | rfl | assumption) rfl ⟨dX5_begin_301, rfl⟩ ?_
                                refine zk_icmp_geN (pc' := 307) hC ⟨dX5_begin_304, rfl⟩ 448 (by decide) (by omega) (by omega) (fun q4 => ?_) (fun q4 => ?_)
                                · omega
                                · refine zk_iconst (pc' := 308) (x := nI 0) hC ⟨dX5_begin_307, rfl⟩ zc_iconst_0 ?_
                                  refine zk_is11 (pc' := 310) hC ⟨dX5_begin_308, rfl⟩ rfl ?_
                                  refine zk_up (P := fun j => zk_A 1 X E 310 [some (.ref (zk_ad X 0)), some (.int (nI k2)), some (.int (nI l2)), some (.int (nI p2)), some (.int (nI mm)), some (.int (nI t2)), some (.int (nI w2)), some (.int (nI s2)), some (.int sc2), some (.int dt), some (.int (nI i)), some (.int (nI j)), none] [] (mb (I2, J2) (md_g g0 0 0 (76) 1 k2 l2 p2 t2 s 0) (md_g g0 0 0 (64) 1 k2 l2 p2 t2 s 0) s (2 * i + j)).1 (mb (I2, J2) (md_g g0 0 0 (76) 1 k2 l2 p2 t2 s 0) (md_g g0 0 0 (64) 1 k2 l2 p2 t2 s 0) s (2 * i + j)).2) 2 ?_ (fun j hj ihj => ?_)
                                  · skip
                                    refine zk_iload (pc' := 312) hC rfl ⟨dX5_begin_310, rfl⟩ ?_
                                    refine zk_iconst (pc' := 313) (x := nI 2) hC ⟨dX5_begin_312, rfl⟩ zc_iconst_2 ?_
                                    refine zk_icmp_geN (pc' := 316) hC ⟨dX5_begin_313, rfl⟩ 442 (by decide) (by omega) (by omega) (fun q5 => ?_) (fun q5 => ?_)
                                    · refine zk_fg11 ?_
                                      first | refine zk_in10 (pc' := 445) hC ⟨dX5_begin_442, rfl⟩ ?_ | refine zk_iincG (pc' := 445) hC ⟨dX5_begin_442, rfl⟩ rfl ?_
                                      refine zk_goto (pc' := 448) hC ⟨dX5_begin_445, rfl⟩ 298 (by decide) ?_
                                      exact ih
                                    · omega
                                  · skip
                                    obtain ⟨z, hI⟩ := hgq (2 * i + j)
                                    revert ihj
                                    show zk_A 1 X E 310 [some (.ref (zk_ad X 0)), some (.int (nI k2)), some (.int (nI l2)), some (.int (nI p2)), some (.int (nI mm)), some (.int (nI t2)), some (.int (nI w2)), some (.int (nI s2)), some (.int sc2), some (.int dt), some (.int (nI i)), some (.int (nI (j + 1))), none] [] (mb_1 (mb (I2, J2) (md_g g0 0 0 (76) 1 k2 l2 p2 t2 s 0) (md_g g0 0 0 (64) 1 k2 l2 p2 t2 s 0) s (2 * i + j)) (md_g g0 0 0 (76) 1 k2 l2 p2 t2 s 0) (md_g g0 0 0 (64) 1 k2 l2 p2 t2 s 0) s ((2 * i + j) / 2) ((2 * i + j) % 2)).1 (mb_1 (mb (I2, J2) (md_g g0 0 0 (76) 1 k2 l2 p2 t2 s 0) (md_g g0 0 0 (64) 1 k2 l2 p2 t2 s 0) s (2 * i + j)) (md_g g0 0 0 (76) 1 k2 l2 p2 t2 s 0) (md_g g0 0 0 (64) 1 k2 l2 p2 t2 s 0) s ((2 * i + j) / 2) ((2 * i + j) % 2)).2 → _
                                    rw [show (2 * i + j) / 2 = i by omega, show (2 * i + j) % 2 = j by omega]
                                    generalize mb (I2, J2) (md_g g0 0 0 (76) 1 k2 l2 p2 t2 s 0) (md_g g0 0 0 (64) 1 k2 l2 p2 t2 s 0) s (2 * i + j) = S at hI ⊢
                                    obtain ⟨I3, J3⟩ := S
                                    unfold mb_1
                                    dsimp only at hI ⊢
                                    intro ihj
                                    refine zk_iload (pc' := 312) hC rfl ⟨dX5_begin_310, rfl⟩ ?_
                                    refine zk_iconst (pc' := 313) (x := nI 2) hC ⟨dX5_begin_312, rfl⟩ zc_iconst_2 ?_
                                    refine zk_icmp_geN (pc' := 316) hC ⟨dX5_begin_313, rfl⟩ 442 (by decide) (by omega) (by omega) (fun q5 => ?_) (fun q5 => ?_)
                                    · omega
                                    · refine zk_aload_n (pc' := 317) hC rfl ⟨dX5_begin_316, rfl⟩ ?_
                                      refine zk_iconst (pc' := 318) (x := nI 4) hC ⟨dX5_begin_317, rfl⟩ zc_iconst_4 ?_
                                      refine zk_puti (pc' := 321) hC fl_X5_109 fp_X5_5 (by first | decide | assumption | omega) (by first | rfl | assumption) rfl rfl rfl ⟨dX5_begin_318, rfl⟩ ?_
                                      rw [hI, md_p5]
                                      refine zk_eqI (I' := mdm I3 (md_cp (I3 4) 4 (fun k => md_by (J3 13 k) 0) 0) (md_g g0 0 0 (4 + 0) 1 k2 l2 p2 t2 s 0)) (by rw [md_cp_0, mdm, zk_u_self]) ?_
                                      refine zk_iconst (pc' := 322) (x := nI 0) hC ⟨dX5_begin_321, rfl⟩ zc_iconst_0 ?_
                                      refine zk_is12 (pc' := 324) hC ⟨dX5_begin_322, rfl⟩ rfl ?_
                                      refine zk_up (P := fun k => zk_A 1 X E 324 [some (.ref (zk_ad X 0)), some (.int (nI k2)), some (.int (nI l2)), some (.int (nI p2)), some (.int (nI mm)), some (.int (nI t2)), some (.int (nI w2)), some (.int (nI s2)), some (.int sc2), some (.int dt), some (.int (nI i)), some (.int (nI j)), some (.int (nI k))] [] (mdm I3 (md_cp (I3 4) 4 (fun k => md_by (J3 13 k) 0) k) (md_g g0 0 0 (4 + k) 1 k2 l2 p2 t2 s 0)) J3) 64 ?_ (fun k hk ihk => ?_)
                                      · skip
                                        refine zk_iload (pc' := 326) hC rfl ⟨dX5_begin_324, rfl⟩ ?_
                                        refine zk_bipush (pc' := 328) (x := nI 64) hC ⟨dX5_begin_326, rfl⟩ zc_bipush_64 ?_
                                        refine zk_icmp_geN (pc' := 331) hC ⟨dX5_begin_328, rfl⟩ 349 (by decide) (by omega) (by omega) (fun q6 => ?_) (fun q6 => ?_)
                                        · have hI := mdm_0 (I := I3) (f := md_cp (I3 4) 4 (fun k => md_by (J3 13 k) 0) 64) (g := (md_g g0 0 0 (4 + 64) 1 k2 l2 p2 t2 s 0))
                                          have hmd : mb_m (I3 4) (J3 13) i j = md_cp (md_cp (md_cp (I3 4) 4 (fun k => md_by (J3 13 k) 0) 64) 68 (md_by (lN j)) 4) 72 (md_by (lN i)) 4 := rfl
                                          refine zk_aload_n (pc' := 350) hC rfl ⟨dX5_begin_349, rfl⟩ ?_
                                          refine zk_iconst (pc' := 351) (x := nI 4) hC ⟨dX5_begin_350, rfl⟩ zc_iconst_4 ?_
                                          refine zk_iload (pc' := 353) hC rfl ⟨dX5_begin_351, rfl⟩ ?_
                                          first | refine zk_i2lN (pc' := 354) hC ⟨dX5_begin_353, rfl⟩ (by omega) ?_ | refine zk_i2l (pc' := 354) hC ⟨dX5_begin_353, rfl⟩ ?_
                                          refine zk_callV0 (pc' := 357) hC ml_X5_144 mi_X5_put (c_X5_put X _ J3 hI (n := 4) (lN j) (by decide) (by decide)) (by decide) (by first | decide | assumption | omega) (by first | rfl | assumption) rfl rfl rfl (Nat.le_of_ble_eq_true rfl) ⟨dX5_begin_354, rfl⟩ ?_
                                          rw [mdm_4, mdm_mdm]
                                          have hI := mdm_0 (I := I3) (f := md_cp (md_cp (I3 4) 4 (fun k => md_by (J3 13 k) 0) 64) (4 + 64) (md_by (lN j)) 4) (g := (md_g g0 0 0 (4 + 64 + 4) 1 k2 l2 p2 t2 s 0))
                                          refine zk_aload_n (pc' := 358) hC rfl ⟨dX5_begin_357, rfl⟩ ?_
                                          refine zk_iconst (pc' := 359) (x := nI 4) hC ⟨dX5_begin_358, rfl⟩ zc_iconst_4 ?_
                                          refine zk_iload (pc' := 361) hC rfl ⟨dX5_begin_359, rfl⟩ ?_
                                          first | refine zk_i2lN (pc' := 362) hC ⟨dX5_begin_361, rfl⟩ (by omega) ?_ | refine zk_i2l (pc' := 362) hC ⟨dX5_begin_361, rfl⟩ ?_
                                          refine zk_callV0 (pc' := 365) hC ml_X5_144 mi_X5_put (c_X5_put X _ J3 hI (n := 4) (lN i) (by decide) (by decide)) (by decide) (by first | decide | assumption | omega) (by first | rfl | assumption) rfl rfl rfl (Nat.le_of_ble_eq_true rfl) ⟨dX5_begin_362, rfl⟩ ?_
                                          rw [mdm_4, mdm_mdm]
                                          change zk_A 1 X E 365 _ _ (mdm I3 (mb_m (I3 4) (J3 13) i j) (md_g g0 0 0 (76) 1 k2 l2 p2 t2 s 0)) J3
                                          have hI := mdm_0 (I := I3) (f := mb_m (I3 4) (J3 13) i j) (g := (md_g g0 0 0 (76) 1 k2 l2 p2 t2 s 0))
                                          refine zk_aload_n (pc' := 366) hC rfl ⟨dX5_begin_365, rfl⟩ ?_
                                          refine zk_sipush (pc' := 369) (x := nI 1024) hC ⟨dX5_begin_366, rfl⟩ zc_sipush_1024 ?_
                                          refine zk_callV0 (pc' := 372) hC ml_X5_155 mi_X5_longTo (c_X5_longTo X _ J3 hI (n := 1024) (by decide) (by decide) (by decide)) (by decide) (by first | decide | assumption | omega) (by first | rfl | assumption) rfl rfl rfl (Nat.le_of_ble_eq_true rfl) ⟨dX5_begin_369, rfl⟩ ?_
                                          change zk_A 1 X E 372 _ _ (mb_L (I3, J3) (md_g g0 0 0 (76) 1 k2 l2 p2 t2 s 0) (md_g g0 0 0 (64) 1 k2 l2 p2 t2 s 0) i j).1 (mb_L (I3, J3) (md_g g0 0 0 (76) 1 k2 l2 p2 t2 s 0) (md_g g0 0 0 (64) 1 k2 l2 p2 t2 s 0) i j).2
                                          have hI : (mb_L (I3, J3) (md_g g0 0 0 (76) 1 k2 l2 p2 t2 s 0) (md_g g0 0 0 (64) 1 k2 l2 p2 t2 s 0) i j).1 0 = (md_g g0 0 0 (64) 1 k2 l2 p2 t2 s 0) := md_L_g
                                          generalize mb_L (I3, J3) (md_g g0 0 0 (76) 1 k2 l2 p2 t2 s 0) (md_g g0 0 0 (64) 1 k2 l2 p2 t2 s 0) i j = SL at hI ihj ⊢
                                          obtain ⟨I4, J4⟩ := SL
                                          dsimp only at hI ihj ⊢
                                          refine zk_iconst (pc' := 373) (x := nI 0) hC ⟨dX5_begin_372, rfl⟩ zc_iconst_0 ?_
                                          refine zk_is12 (pc' := 375) hC ⟨dX5_begin_373, rfl⟩ rfl ?_
                                          refine zk_eqJ (J' := zk_u J4 9 (md_ml (J4 9) (128 * (4 * s * i + j)) (I4 8) 0)) (by rw [md_ml, zk_u_self]) ?_
                                          refine zk_up (P := fun k => zk_A 1 X E 375 [some (.ref (zk_ad X 0)), some (.int (nI k2)), some (.int (nI l2)), some (.int (nI p2)), some (.int (nI mm)), some (.int (nI t2)), some (.int (nI w2)), some (.int (nI s2)), some (.int sc2), some (.int dt), some (.int (nI i)), some (.int (nI j)), some (.int (nI k))] [] I4 (zk_u J4 9 (md_ml (J4 9) (128 * (4 * s * i + j)) (I4 8) k))) 1024 ?_ (fun k hk ihk => ?_)
                                          · skip
                                            refine zk_iload (pc' := 377) hC rfl ⟨dX5_begin_375, rfl⟩ ?_
                                            refine zk_sipush (pc' := 380) (x := nI 1024) hC ⟨dX5_begin_377, rfl⟩ zc_sipush_1024 ?_
                                            refine zk_icmp_geN (pc' := 383) hC ⟨dX5_begin_380, rfl⟩ 436 (by decide) (by omega) (by omega) (fun q7 => ?_) (fun q7 => ?_)
                                            · refine zk_fg12 ?_
                                              first | refine zk_in11 (pc' := 439) hC ⟨dX5_begin_436, rfl⟩ ?_ | refine zk_iincG (pc' := 439) hC ⟨dX5_begin_436, rfl⟩ rfl ?_
                                              refine zk_goto (pc' := 442) hC ⟨dX5_begin_439, rfl⟩ 310 (by decide) ?_
                                              exact ihj
                                            · omega
                                          · skip
                                            refine zk_iload (pc' := 377) hC rfl ⟨dX5_begin_375, rfl⟩ ?_
                                            refine zk_sipush (pc' := 380) (x := nI 1024) hC ⟨dX5_begin_377, rfl⟩ zc_sipush_1024 ?_
                                            refine zk_icmp_geN (pc' := 383) hC ⟨dX5_begin_380, rfl⟩ 436 (by decide) (by omega) (by omega) (fun q7 => ?_) (fun q7 => ?_)
                                            · omega
                                            · refine zk_aload_n (pc' := 384) hC rfl ⟨dX5_begin_383, rfl⟩ ?_
                                              refine zk_getr (pc' := 387) hC fl_X5_35 (by first | decide | assumption | omega) (by first | rfl | assumption) rfl ⟨dX5_begin_384, rfl⟩ ?_
                                              refine zk_sipush (pc' := 390) (x := nI 128) hC ⟨dX5_begin_387, rfl⟩ zc_sipush_128 ?_
                                              refine zk_iconst (pc' := 391) (x := nI 4) hC ⟨dX5_begin_390, rfl⟩ zc_iconst_4 ?_
                                              refine zk_aload_n (pc' := 392) hC rfl ⟨dX5_begin_391, rfl⟩ ?_
                                              first | refine zk_getiN (pc' := 395) hC fl_X5_177 (by first | decide | assumption | omega) (by first | rfl | assumption) rfl (by first | assumption | (rw [zk_u_s]; rfl) | (rw [hI]; rfl)) ⟨dX5_begin_392, rfl⟩ ?_ | refine zk_geti (pc' := 395) hC fl_X5_177 (by first | decide | assumption | omega) (by first | rfl | assumption) rfl ⟨dX5_begin_392, rfl⟩ ?_
                                              first | refine zk_imulN (pc' := 396) hC ⟨dX5_begin_395, rfl⟩ ?_ | refine zk_imul (pc' := 396) hC ⟨dX5_begin_395, rfl⟩ ?_
                                              refine zk_iload (pc' := 398) hC rfl ⟨dX5_begin_396, rfl⟩ ?_
                                              first | refine zk_imulN (pc' := 399) hC ⟨dX5_begin_398, rfl⟩ ?_ | refine zk_imul (pc' := 399) hC ⟨dX5_begin_398, rfl⟩ ?_
                                              refine zk_iload (pc' := 401) hC rfl ⟨dX5_begin_399, rfl⟩ ?_
                                              first | refine zk_iaddN (pc' := 402) hC ⟨dX5_begin_401, rfl⟩ ?_ | refine zk_iadd (pc' := 402) hC ⟨dX5_begin_401, rfl⟩ ?_
                                              first | refine zk_imulN (pc' := 403) hC ⟨dX5_begin_402, rfl⟩ ?_ | refine zk_imul (pc' := 403) hC ⟨dX5_begin_402, rfl⟩ ?_
                                              refine zk_iload (pc' := 405) hC rfl ⟨dX5_begin_403, rfl⟩ ?_
                                              refine zk_bipush (pc' := 407) (x := nI 8) hC ⟨dX5_begin_405, rfl⟩ zc_bipush_8 ?_
                                              first | refine zk_idivN (pc' := 408) hC ⟨dX5_begin_407, rfl⟩ (by omega) (by omega) (by omega) ?_ | refine zk_idiv (pc' := 408) hC ⟨dX5_begin_407, rfl⟩ (by first | assumption | decide) ?_
                                              first | refine zk_iaddN (pc' := 409) hC ⟨dX5_begin_408, rfl⟩ ?_ | refine zk_iadd (pc' := 409) hC ⟨dX5_begin_408, rfl⟩ ?_
                                              refine zk_dup2 (pc' := 410) hC ⟨dX5_begin_409, rfl⟩ rfl rfl ?_
                                              first | refine zk_laldN (pc' := 411) hC (by first | decide | assumption | omega) (by first | rfl | assumption) (by omega) (by first | decide | omega) ⟨dX5_begin_410, rfl⟩ ?_ | refine zk_t1N (pc' := 411) hC (by omega) ⟨dX5_begin_410, rfl⟩ ?_
                                              rw [zk_u_s]
                                              refine zk_aload_n (pc' := 412) hC rfl ⟨dX5_begin_411, rfl⟩ ?_
                                              refine zk_getr (pc' := 415) hC fl_X5_32 (by first | decide | assumption | omega) (by first | rfl | assumption) rfl ⟨dX5_begin_412, rfl⟩ ?_
                                              refine zk_iload (pc' := 417) hC rfl ⟨dX5_begin_415, rfl⟩ ?_
                                              first | refine zk_ialdN (pc' := 418) hC (by first | decide | assumption | omega) (by first | rfl | assumption) (by omega) (by first | decide | omega) ⟨dX5_begin_417, rfl⟩ ?_ | refine zk_t0N (pc' := 418) hC (by omega) ⟨dX5_begin_417, rfl⟩ ?_ | refine zk_t2N (pc' := 418) hC (by omega) ⟨dX5_begin_417, rfl⟩ ?_
                                              first | refine zk_i2lN (pc' := 419) hC ⟨dX5_begin_418, rfl⟩ (by omega) ?_ | refine zk_i2l (pc' := 419) hC ⟨dX5_begin_418, rfl⟩ ?_
                                              refine zk_bipush (pc' := 421) (x := nI 8) hC ⟨dX5_begin_419, rfl⟩ zc_bipush_8 ?_
                                              refine zk_iload (pc' := 423) hC rfl ⟨dX5_begin_421, rfl⟩ ?_
                                              refine zk_bipush (pc' := 425) (x := nI 8) hC ⟨dX5_begin_423, rfl⟩ zc_bipush_8 ?_
                                              first | refine zk_iremN (pc' := 426) hC ⟨dX5_begin_425, rfl⟩ (by omega) (by omega) (by omega) ?_ | refine zk_irem (pc' := 426) hC ⟨dX5_begin_425, rfl⟩ (by first | assumption | decide) ?_
                                              first | refine zk_imulN (pc' := 427) hC ⟨dX5_begin_426, rfl⟩ ?_ | refine zk_imul (pc' := 427) hC ⟨dX5_begin_426, rfl⟩ ?_
                                              refine zk_lshl (pc' := 428) hC ⟨dX5_begin_427, rfl⟩ ?_
                                              refine zk_lor (pc' := 429) hC ⟨dX5_begin_428, rfl⟩ ?_
                                              first | refine zk_lastN (pc' := 430) hC (by first | decide | assumption | omega) (by first | rfl | assumption) (by omega) (by first | decide | omega) ⟨dX5_begin_429, rfl⟩ ?_
                                              rw [zk_u_s, zk_u_u]
                                              first | refine zk_in12 (pc' := 433) hC ⟨dX5_begin_430, rfl⟩ ?_ | refine zk_iincG (pc' := 433) hC ⟨dX5_begin_430, rfl⟩ rfl ?_
                                              refine zk_goto (pc' := 436) hC ⟨dX5_begin_433, rfl⟩ 375 (by decide) ?_
                                              exact ihk
                                        · omega
                                      · skip
                                        have hI := mdm_0 (I := I3) (f := md_cp (I3 4) 4 (fun k => md_by (J3 13 k) 0) k) (g := (md_g g0 0 0 (4 + k) 1 k2 l2 p2 t2 s 0))
                                        refine zk_iload (pc' := 326) hC rfl ⟨dX5_begin_324, rfl⟩ ?_
                                        refine zk_bipush (pc' := 328) (x := nI 64) hC ⟨dX5_begin_326, rfl⟩ zc_bipush_64 ?_
                                        refine zk_icmp_geN (pc' := 331) hC ⟨dX5_begin_328, rfl⟩ 349 (by decide) (by omega) (by omega) (fun q6 => ?_) (fun q6 => ?_)
                                        · omega
                                        · refine zk_aload_n (pc' := 332) hC rfl ⟨dX5_begin_331, rfl⟩ ?_
                                          refine zk_iconst (pc' := 333) (x := nI 1) hC ⟨dX5_begin_332, rfl⟩ zc_iconst_1 ?_
                                          refine zk_aload_n (pc' := 334) hC rfl ⟨dX5_begin_333, rfl⟩ ?_
                                          refine zk_getr (pc' := 337) hC fl_X5_47 (by first | decide | assumption | omega) (by first | rfl | assumption) rfl ⟨dX5_begin_334, rfl⟩ ?_
                                          refine zk_iload (pc' := 339) hC rfl ⟨dX5_begin_337, rfl⟩ ?_
                                          first | refine zk_laldN (pc' := 340) hC (by first | decide | assumption | omega) (by first | rfl | assumption) (by omega) (by first | decide | omega) ⟨dX5_begin_339, rfl⟩ ?_ | refine zk_t1N (pc' := 340) hC (by omega) ⟨dX5_begin_339, rfl⟩ ?_
                                          refine zk_callV0 (pc' := 343) hC ml_X5_144 mi_X5_put (c_X5_put X _ J3 hI (n := 1) (J3 13 k) (by decide) (by omega)) (by decide) (by first | decide | assumption | omega) (by first | rfl | assumption) rfl rfl rfl (Nat.le_of_ble_eq_true rfl) ⟨dX5_begin_340, rfl⟩ ?_
                                          rw [mdm_4, mdm_mdm, md_cp_1, md_cp_S _ 4 (fun k => md_by (J3 13 k) 0) k rfl]
                                          first | refine zk_in12 (pc' := 346) hC ⟨dX5_begin_343, rfl⟩ ?_ | refine zk_iincG (pc' := 346) hC ⟨dX5_begin_343, rfl⟩ rfl ?_
                                          refine zk_goto (pc' := 349) hC ⟨dX5_begin_346, rfl⟩ 324 (by decide) ?_
                                          exact ihk
                            · omega
                          · skip
                            refine zk_iload (pc' := 275) hC rfl ⟨dX5_begin_273, rfl⟩ ?_
                            refine zk_sipush (pc' := 278) (x := nI 16384) hC ⟨dX5_begin_275, rfl⟩ zc_sipush_16384 ?_
                            refine zk_icmp_geN (pc' := 281) hC ⟨dX5_begin_278, rfl⟩ 295 (by decide) (by omega) (by omega) (fun q3 => ?_) (fun q3 => ?_)
                            · omega
                            · refine zk_aload_n (pc' := 282) hC rfl ⟨dX5_begin_281, rfl⟩ ?_
                              refine zk_getr (pc' := 285) hC fl_X5_35 (by first | decide | assumption | omega) (by first | rfl | assumption) rfl ⟨dX5_begin_282, rfl⟩ ?_
                              refine zk_iload (pc' := 287) hC rfl ⟨dX5_begin_285, rfl⟩ ?_
                              refine zk_lconst (pc' := 288) (x := lN 0) hC ⟨dX5_begin_287, rfl⟩ rfl ?_
                              first | refine zk_lastN (pc' := 289) hC (by first | decide | assumption | omega) (by first | rfl | assumption) (by omega) (by first | decide | omega) ⟨dX5_begin_288, rfl⟩ ?_
                              rw [zk_u_s, zk_u_u, fz_S _ _ k rfl]
                              first | refine zk_in10 (pc' := 292) hC ⟨dX5_begin_289, rfl⟩ ?_ | refine zk_iincG (pc' := 292) hC ⟨dX5_begin_289, rfl⟩ rfl ?_
                              refine zk_goto (pc' := 295) hC ⟨dX5_begin_292, rfl⟩ 273 (by decide) ?_
                              exact ih
                        · omega
                      · skip
                        refine zk_iload (pc' := 244) hC rfl ⟨dX5_begin_242, rfl⟩ ?_
                        refine zk_bipush (pc' := 246) (x := nI 64) hC ⟨dX5_begin_244, rfl⟩ zc_bipush_64 ?_
                        refine zk_icmp_geN (pc' := 249) hC ⟨dX5_begin_246, rfl⟩ 270 (by decide) (by omega) (by omega) (fun q2 => ?_) (fun q2 => ?_)
                        · omega
                        · refine zk_aload_n (pc' := 250) hC rfl ⟨dX5_begin_249, rfl⟩ ?_
                          refine zk_getr (pc' := 253) hC fl_X5_47 (by first | decide | assumption | omega) (by first | rfl | assumption) rfl ⟨dX5_begin_250, rfl⟩ ?_
                          refine zk_iload (pc' := 255) hC rfl ⟨dX5_begin_253, rfl⟩ ?_
                          refine zk_aload_n (pc' := 256) hC rfl ⟨dX5_begin_255, rfl⟩ ?_
                          refine zk_getr (pc' := 259) hC fl_X5_32 (by first | decide | assumption | omega) (by first | rfl | assumption) rfl ⟨dX5_begin_256, rfl⟩ ?_
                          refine zk_iload (pc' := 261) hC rfl ⟨dX5_begin_259, rfl⟩ ?_
                          first | refine zk_ialdN (pc' := 262) hC (by first | decide | assumption | omega) (by first | rfl | assumption) (by omega) (by first | decide | omega) ⟨dX5_begin_261, rfl⟩ ?_ | refine zk_t0N (pc' := 262) hC (by omega) ⟨dX5_begin_261, rfl⟩ ?_ | refine zk_t2N (pc' := 262) hC (by omega) ⟨dX5_begin_261, rfl⟩ ?_
                          refine zk_i2l (pc' := 263) hC ⟨dX5_begin_262, rfl⟩ ?_
                          first | refine zk_lastN (pc' := 264) hC (by first | decide | assumption | omega) (by first | rfl | assumption) (by omega) (by first | decide | omega) ⟨dX5_begin_263, rfl⟩ ?_
                          rw [zk_u_s, zk_u_u, fz_S _ (fun k => (I2 8 k).toInt64) k rfl]
                          first | refine zk_in10 (pc' := 267) hC ⟨dX5_begin_264, rfl⟩ ?_ | refine zk_iincG (pc' := 267) hC ⟨dX5_begin_264, rfl⟩ rfl ?_
                          refine zk_goto (pc' := 270) hC ⟨dX5_begin_267, rfl⟩ 242 (by decide) ?_
                          exact ih
                    · omega

