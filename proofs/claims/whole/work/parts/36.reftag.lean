/-! THE REFERENCE: fill, word, tag, told -/
def mf_J (J : zk_J) (kd ln ps sc dn : Nat) : Nat → zk_J
  | 0 => J
  | t + 1 => md_5 (mf_J J kd ln ps sc dn t) (md_seg (md_of (mf_J J kd ln ps sc dn t)) kd ln ps (4 * sc) sc ((dn + t) / ln / 4) ((dn + t) / ln % 4) ((dn + t) % ln))

set_option maxHeartbeats 1000000 in
set_option maxRecDepth 100000 in
theorem c_X5_fillSome (X : zk_X) (I : zk_I) (J : zk_J) {g0 : Nat → Int32} {th ks sz bg kd ln ps tg sc dn : Nat} (hI : I 0 = md_g g0 th ks sz bg kd ln ps tg sc dn) {n : Nat} (hn : n ≤ 1000) (hw : fl_is kd ln ps tg (4 * sc) sc) (hdn : dn ≤ ps * 4 * ln) : zk_M 1 X yX5_fillSome cX5_fillSome 3 ((some .int)) (7, 179) [.ref (zk_ad X 0), .int (nI n)] I J (some (.int (nI (min n (ps * 4 * ln - dn))))) (zk_u I 0 (md_g g0 th ks sz bg kd ln ps tg sc (dn + min n (ps * 4 * ln - dn)))) (mf_J J kd ln ps sc dn (min n (ps * 4 * ln - dn))) := by
  refine zk_M.intro (by decide) (lv := [some (.ref (zk_ad X 0)), some (.int (nI n)), none]) rfl rfl (fun E hC hR => ?_)
  obtain ⟨k1, k2, k3, k4, k5, k6, k7, k8, k9, k10⟩ := id hw
  have hsegE : 4 * ln * ps = ps * 4 * ln := by rw [Nat.mul_comm, ← Nat.mul_assoc]
  have hseg : ps * 4 * ln ≤ 80 := by
    have : ps * 4 * ln ≤ 20 * 4 := Nat.mul_le_mul (by omega) (by omega)
    omega
  refine zk_iconst (pc' := 1) (x := nI 0) hC ⟨dX5_fillSome_0, rfl⟩ zc_iconst_0 ?_
  refine zk_is2 (pc' := 2) hC ⟨dX5_fillSome_1, rfl⟩ rfl ?_
  generalize hT : min n (ps * 4 * ln - dn) = T at hR
  refine zk_eqI (I' := zk_u I 0 (md_g g0 th ks sz bg kd ln ps tg sc (dn + 0))) (by show I = zk_u I 0 (md_g g0 th ks sz bg kd ln ps tg sc dn); rw [← hI, zk_u_self]) ?_
  refine zk_up (P := fun t => zk_A 1 X E 2 [some (.ref (zk_ad X 0)), some (.int (nI n)), some (.int (nI t))] [] (zk_u I 0 (md_g g0 th ks sz bg kd ln ps tg sc (dn + t))) (mf_J J kd ln ps sc dn t)) T ?_ (fun t ht ih => ?_)
  · skip
    refine zk_iload_n (pc' := 3) hC rfl ⟨dX5_fillSome_2, rfl⟩ ?_
    refine zk_iload_n (pc' := 4) hC rfl ⟨dX5_fillSome_3, rfl⟩ ?_
    refine zk_icmp_geN (pc' := 7) hC ⟨dX5_fillSome_4, rfl⟩ 76 (by decide) (by omega) (by omega) (fun q => ?_) (fun q => ?_)
    · refine zk_iload_n (pc' := 77) hC rfl ⟨dX5_fillSome_76, rfl⟩ ?_
      exact zk_iret (pc' := 78) hC hR rfl rfl rfl ⟨dX5_fillSome_77, rfl⟩
    · refine zk_aload_n (pc' := 8) hC rfl ⟨dX5_fillSome_7, rfl⟩ ?_
      first | refine zk_getiN (pc' := 11) hC fl_X5_180 (by first | decide | assumption | omega) (by first | rfl | assumption) rfl (by first | assumption | (rw [zk_u_s]; rfl) | (rw [hI]; rfl)) ⟨dX5_fillSome_8, rfl⟩ ?_ | refine zk_geti (pc' := 11) hC fl_X5_180 (by first | decide | assumption | omega) (by first | rfl | assumption) rfl ⟨dX5_fillSome_8, rfl⟩ ?_
      refine zk_iconst (pc' := 12) (x := nI 4) hC ⟨dX5_fillSome_11, rfl⟩ zc_iconst_4 ?_
      refine zk_aload_n (pc' := 13) hC rfl ⟨dX5_fillSome_12, rfl⟩ ?_
      first | refine zk_getiN (pc' := 16) hC fl_X5_168 (by first | decide | assumption | omega) (by first | rfl | assumption) rfl (by first | assumption | (rw [zk_u_s]; rfl) | (rw [hI]; rfl)) ⟨dX5_fillSome_13, rfl⟩ ?_ | refine zk_geti (pc' := 16) hC fl_X5_168 (by first | decide | assumption | omega) (by first | rfl | assumption) rfl ⟨dX5_fillSome_13, rfl⟩ ?_
      first | refine zk_imulN (pc' := 17) hC ⟨dX5_fillSome_16, rfl⟩ ?_ | refine zk_imul (pc' := 17) hC ⟨dX5_fillSome_16, rfl⟩ ?_
      refine zk_aload_n (pc' := 18) hC rfl ⟨dX5_fillSome_17, rfl⟩ ?_
      first | refine zk_getiN (pc' := 21) hC fl_X5_171 (by first | decide | assumption | omega) (by first | rfl | assumption) rfl (by first | assumption | (rw [zk_u_s]; rfl) | (rw [hI]; rfl)) ⟨dX5_fillSome_18, rfl⟩ ?_ | refine zk_geti (pc' := 21) hC fl_X5_171 (by first | decide | assumption | omega) (by first | rfl | assumption) rfl ⟨dX5_fillSome_18, rfl⟩ ?_
      first | refine zk_imulN (pc' := 22) hC ⟨dX5_fillSome_21, rfl⟩ ?_ | refine zk_imul (pc' := 22) hC ⟨dX5_fillSome_21, rfl⟩ ?_
      rw [hsegE]
      refine zk_icmp_geN (pc' := 25) hC ⟨dX5_fillSome_22, rfl⟩ 76 (by decide) (by omega) (by omega) (fun q2 => ?_) (fun q2 => ?_)
      · refine zk_iload_n (pc' := 77) hC rfl ⟨dX5_fillSome_76, rfl⟩ ?_
        exact zk_iret (pc' := 78) hC hR rfl rfl rfl ⟨dX5_fillSome_77, rfl⟩
      · omega
  · skip
    have hla : (dn + t) % ln < ln := Nat.mod_lt _ (by omega)
    have hsl : (dn + t) / ln % 4 < 4 := Nat.mod_lt _ (by omega)
    have hpa : (dn + t) / ln / 4 ≤ 4 := by
      have h1 : dn + t < ln * (ps * 4) := by rw [Nat.mul_comm]; omega
      have h2 : (dn + t) / ln < ps * 4 := Nat.div_lt_of_lt_mul h1
      omega
    have hdl : (dn + t) / ln ≤ 80 := Nat.le_trans (Nat.div_le_self _ _) (by omega)
    have hIx : zk_u I 0 (md_g g0 th ks sz bg kd ln ps tg sc (dn + t)) 0 = (md_g g0 th ks sz bg kd ln ps tg sc (dn + t)) := zk_u_s
    refine zk_iload_n (pc' := 3) hC rfl ⟨dX5_fillSome_2, rfl⟩ ?_
    refine zk_iload_n (pc' := 4) hC rfl ⟨dX5_fillSome_3, rfl⟩ ?_
    refine zk_icmp_geN (pc' := 7) hC ⟨dX5_fillSome_4, rfl⟩ 76 (by decide) (by omega) (by omega) (fun q => ?_) (fun q => ?_)
    · omega
    · refine zk_aload_n (pc' := 8) hC rfl ⟨dX5_fillSome_7, rfl⟩ ?_
      first | refine zk_getiN (pc' := 11) hC fl_X5_180 (by first | decide | assumption | omega) (by first | rfl | assumption) rfl (by first | assumption | (rw [zk_u_s]; rfl) | (rw [hI]; rfl)) ⟨dX5_fillSome_8, rfl⟩ ?_ | refine zk_geti (pc' := 11) hC fl_X5_180 (by first | decide | assumption | omega) (by first | rfl | assumption) rfl ⟨dX5_fillSome_8, rfl⟩ ?_
      refine zk_iconst (pc' := 12) (x := nI 4) hC ⟨dX5_fillSome_11, rfl⟩ zc_iconst_4 ?_
      refine zk_aload_n (pc' := 13) hC rfl ⟨dX5_fillSome_12, rfl⟩ ?_
      first | refine zk_getiN (pc' := 16) hC fl_X5_168 (by first | decide | assumption | omega) (by first | rfl | assumption) rfl (by first | assumption | (rw [zk_u_s]; rfl) | (rw [hI]; rfl)) ⟨dX5_fillSome_13, rfl⟩ ?_ | refine zk_geti (pc' := 16) hC fl_X5_168 (by first | decide | assumption | omega) (by first | rfl | assumption) rfl ⟨dX5_fillSome_13, rfl⟩ ?_
      first | refine zk_imulN (pc' := 17) hC ⟨dX5_fillSome_16, rfl⟩ ?_ | refine zk_imul (pc' := 17) hC ⟨dX5_fillSome_16, rfl⟩ ?_
      refine zk_aload_n (pc' := 18) hC rfl ⟨dX5_fillSome_17, rfl⟩ ?_
      first | refine zk_getiN (pc' := 21) hC fl_X5_171 (by first | decide | assumption | omega) (by first | rfl | assumption) rfl (by first | assumption | (rw [zk_u_s]; rfl) | (rw [hI]; rfl)) ⟨dX5_fillSome_18, rfl⟩ ?_ | refine zk_geti (pc' := 21) hC fl_X5_171 (by first | decide | assumption | omega) (by first | rfl | assumption) rfl ⟨dX5_fillSome_18, rfl⟩ ?_
      first | refine zk_imulN (pc' := 22) hC ⟨dX5_fillSome_21, rfl⟩ ?_ | refine zk_imul (pc' := 22) hC ⟨dX5_fillSome_21, rfl⟩ ?_
      rw [hsegE]
      refine zk_icmp_geN (pc' := 25) hC ⟨dX5_fillSome_22, rfl⟩ 76 (by decide) (by omega) (by omega) (fun q2 => ?_) (fun q2 => ?_)
      · omega
      · refine zk_aload_n (pc' := 26) hC rfl ⟨dX5_fillSome_25, rfl⟩ ?_
        refine zk_aload_n (pc' := 27) hC rfl ⟨dX5_fillSome_26, rfl⟩ ?_
        first | refine zk_getiN (pc' := 30) hC fl_X5_180 (by first | decide | assumption | omega) (by first | rfl | assumption) rfl (by first | assumption | (rw [zk_u_s]; rfl) | (rw [hI]; rfl)) ⟨dX5_fillSome_27, rfl⟩ ?_ | refine zk_geti (pc' := 30) hC fl_X5_180 (by first | decide | assumption | omega) (by first | rfl | assumption) rfl ⟨dX5_fillSome_27, rfl⟩ ?_
        refine zk_iconst (pc' := 31) (x := nI 4) hC ⟨dX5_fillSome_30, rfl⟩ zc_iconst_4 ?_
        refine zk_aload_n (pc' := 32) hC rfl ⟨dX5_fillSome_31, rfl⟩ ?_
        first | refine zk_getiN (pc' := 35) hC fl_X5_168 (by first | decide | assumption | omega) (by first | rfl | assumption) rfl (by first | assumption | (rw [zk_u_s]; rfl) | (rw [hI]; rfl)) ⟨dX5_fillSome_32, rfl⟩ ?_ | refine zk_geti (pc' := 35) hC fl_X5_168 (by first | decide | assumption | omega) (by first | rfl | assumption) rfl ⟨dX5_fillSome_32, rfl⟩ ?_
        first | refine zk_imulN (pc' := 36) hC ⟨dX5_fillSome_35, rfl⟩ ?_ | refine zk_imul (pc' := 36) hC ⟨dX5_fillSome_35, rfl⟩ ?_
        first | refine zk_idivN (pc' := 37) hC ⟨dX5_fillSome_36, rfl⟩ (by omega) (by omega) (by omega) ?_ | refine zk_idiv (pc' := 37) hC ⟨dX5_fillSome_36, rfl⟩ (by first | assumption | decide) ?_
        rw [show (dn + t) / (4 * ln) = (dn + t) / ln / 4 by rw [Nat.div_div_eq_div_mul, Nat.mul_comm ln 4]]
        refine zk_aload_n (pc' := 38) hC rfl ⟨dX5_fillSome_37, rfl⟩ ?_
        first | refine zk_getiN (pc' := 41) hC fl_X5_180 (by first | decide | assumption | omega) (by first | rfl | assumption) rfl (by first | assumption | (rw [zk_u_s]; rfl) | (rw [hI]; rfl)) ⟨dX5_fillSome_38, rfl⟩ ?_ | refine zk_geti (pc' := 41) hC fl_X5_180 (by first | decide | assumption | omega) (by first | rfl | assumption) rfl ⟨dX5_fillSome_38, rfl⟩ ?_
        refine zk_aload_n (pc' := 42) hC rfl ⟨dX5_fillSome_41, rfl⟩ ?_
        first | refine zk_getiN (pc' := 45) hC fl_X5_168 (by first | decide | assumption | omega) (by first | rfl | assumption) rfl (by first | assumption | (rw [zk_u_s]; rfl) | (rw [hI]; rfl)) ⟨dX5_fillSome_42, rfl⟩ ?_ | refine zk_geti (pc' := 45) hC fl_X5_168 (by first | decide | assumption | omega) (by first | rfl | assumption) rfl ⟨dX5_fillSome_42, rfl⟩ ?_
        first | refine zk_idivN (pc' := 46) hC ⟨dX5_fillSome_45, rfl⟩ (by omega) (by omega) (by omega) ?_ | refine zk_idiv (pc' := 46) hC ⟨dX5_fillSome_45, rfl⟩ (by first | assumption | decide) ?_
        refine zk_iconst (pc' := 47) (x := nI 4) hC ⟨dX5_fillSome_46, rfl⟩ zc_iconst_4 ?_
        first | refine zk_iremN (pc' := 48) hC ⟨dX5_fillSome_47, rfl⟩ (by omega) (by omega) (by omega) ?_ | refine zk_irem (pc' := 48) hC ⟨dX5_fillSome_47, rfl⟩ (by first | assumption | decide) ?_
        refine zk_aload_n (pc' := 49) hC rfl ⟨dX5_fillSome_48, rfl⟩ ?_
        first | refine zk_getiN (pc' := 52) hC fl_X5_180 (by first | decide | assumption | omega) (by first | rfl | assumption) rfl (by first | assumption | (rw [zk_u_s]; rfl) | (rw [hI]; rfl)) ⟨dX5_fillSome_49, rfl⟩ ?_ | refine zk_geti (pc' := 52) hC fl_X5_180 (by first | decide | assumption | omega) (by first | rfl | assumption) rfl ⟨dX5_fillSome_49, rfl⟩ ?_
        refine zk_aload_n (pc' := 53) hC rfl ⟨dX5_fillSome_52, rfl⟩ ?_
        first | refine zk_getiN (pc' := 56) hC fl_X5_168 (by first | decide | assumption | omega) (by first | rfl | assumption) rfl (by first | assumption | (rw [zk_u_s]; rfl) | (rw [hI]; rfl)) ⟨dX5_fillSome_53, rfl⟩ ?_ | refine zk_geti (pc' := 56) hC fl_X5_168 (by first | decide | assumption | omega) (by first | rfl | assumption) rfl ⟨dX5_fillSome_53, rfl⟩ ?_
        first | refine zk_iremN (pc' := 57) hC ⟨dX5_fillSome_56, rfl⟩ (by omega) (by omega) (by omega) ?_ | refine zk_irem (pc' := 57) hC ⟨dX5_fillSome_56, rfl⟩ (by first | assumption | decide) ?_
        refine zk_callV0 (pc' := 60) hC ml_X5_224 mi_X5_segment (c_X5_segment X _ _ hIx hw hpa hsl hla) (by decide) (by first | decide | assumption | omega) (by first | rfl | assumption) rfl rfl rfl (Nat.le_of_ble_eq_true rfl) ⟨dX5_fillSome_57, rfl⟩ ?_
        refine zk_aload_n (pc' := 61) hC rfl ⟨dX5_fillSome_60, rfl⟩ ?_
        refine zk_dup (pc' := 62) hC ⟨dX5_fillSome_61, rfl⟩ rfl ?_
        first | refine zk_getiN (pc' := 65) hC fl_X5_180 (by first | decide | assumption | omega) (by first | rfl | assumption) rfl (by first | assumption | (rw [zk_u_s]; rfl) | (rw [hI]; rfl)) ⟨dX5_fillSome_62, rfl⟩ ?_ | refine zk_geti (pc' := 65) hC fl_X5_180 (by first | decide | assumption | omega) (by first | rfl | assumption) rfl ⟨dX5_fillSome_62, rfl⟩ ?_
        refine zk_iconst (pc' := 66) (x := nI 1) hC ⟨dX5_fillSome_65, rfl⟩ zc_iconst_1 ?_
        first | refine zk_iaddN (pc' := 67) hC ⟨dX5_fillSome_66, rfl⟩ ?_ | refine zk_iadd (pc' := 67) hC ⟨dX5_fillSome_66, rfl⟩ ?_
        refine zk_puti (pc' := 70) hC fl_X5_180 fp_X5_17 (by first | decide | assumption | omega) (by first | rfl | assumption) rfl rfl rfl ⟨dX5_fillSome_67, rfl⟩ ?_
        rw [zk_u_s, zk_u_u, md_p17]
        first | refine zk_in2 (pc' := 73) hC ⟨dX5_fillSome_70, rfl⟩ ?_ | refine zk_iincG (pc' := 73) hC ⟨dX5_fillSome_70, rfl⟩ rfl ?_
        refine zk_goto (pc' := 76) hC ⟨dX5_fillSome_73, rfl⟩ 2 (by decide) ?_
        exact ih

set_option maxHeartbeats 1000000 in
set_option maxRecDepth 100000 in
theorem c_X5_fill_bad (X : zk_X) (I : zk_I) (J : zk_J) (n : Int32) (hbad : ¬ (¬ n < nI 1 ∧ ¬ nI 100 < n)) : zk_M 1 X yX5_fill cX5_fill 2 ((some .int)) (8, 201) [.ref (zk_ad X 0), .int n] I J (some (.int (-2))) (md_0 I) J := by
  refine zk_M.intro (by decide) (lv := [some (.ref (zk_ad X 0)), some (.int n)]) rfl rfl (fun E hC hR => ?_)
  refine zk_aload_n (pc' := 1) hC rfl ⟨dX5_fill_0, rfl⟩ ?_
  refine zk_iconst (pc' := 2) (x := nI 0) hC ⟨dX5_fill_1, rfl⟩ zc_iconst_0 ?_
  refine zk_puti (pc' := 5) hC fl_X5_50 fp_X5_0 (by first | decide | assumption | omega) (by first | rfl | assumption) rfl rfl rfl ⟨dX5_fill_2, rfl⟩ ?_
  change zk_A 1 X E 5 _ _ (md_0 I) J
  refine zk_iload_n (pc' := 6) hC rfl ⟨dX5_fill_5, rfl⟩ ?_
  refine zk_iconst (pc' := 7) (x := nI 1) hC ⟨dX5_fill_6, rfl⟩ zc_iconst_1 ?_
  refine zk_bipush (pc' := 9) (x := nI 100) hC ⟨dX5_fill_7, rfl⟩ zc_bipush_100 ?_
  refine zk_callS1 (pc' := 12) hC ml_X5_54 ms_X5_in (c_X5_in X _ J n (nI 1) (nI 100)) (by decide) rfl rfl (Nat.le_of_ble_eq_true rfl) ⟨dX5_fill_9, rfl⟩ ?_
  rw [if_neg hbad]
  refine zk_if_neN (pc' := 15) hC ⟨dX5_fill_12, rfl⟩ 20 (by decide) (by omega) (fun q => ?_) (fun q => ?_)
  · omega
  · refine zk_bipush (pc' := 17) (x := (-2 : Int32)) hC ⟨dX5_fill_15, rfl⟩ zc_bipush_m2 ?_
    refine zk_goto (pc' := 20) hC ⟨dX5_fill_17, rfl⟩ 37 (by decide) ?_
    exact zk_iret (pc' := 38) hC hR rfl rfl rfl ⟨dX5_fill_37, rfl⟩

set_option maxHeartbeats 1000000 in
set_option maxRecDepth 100000 in
theorem c_X5_fill_ref (X : zk_X) (I : zk_I) (J : zk_J) {g0 : Nat → Int32} {th ks sz kd ln ps tg sc dn : Nat} (hI : I 0 = md_g g0 th ks sz 0 kd ln ps tg sc dn) {n : Nat} (hn1 : 1 ≤ n) (hn2 : n ≤ 100) : zk_M 1 X yX5_fill cX5_fill 2 ((some .int)) (8, 201) [.ref (zk_ad X 0), .int (nI n)] I J (some (.int (-3))) (md_0 I) J := by
  refine zk_M.intro (by decide) (lv := [some (.ref (zk_ad X 0)), some (.int (nI n))]) rfl rfl (fun E hC hR => ?_)
  have hI0 := md_0_g hI
  have hI := hI0
  refine zk_aload_n (pc' := 1) hC rfl ⟨dX5_fill_0, rfl⟩ ?_
  refine zk_iconst (pc' := 2) (x := nI 0) hC ⟨dX5_fill_1, rfl⟩ zc_iconst_0 ?_
  refine zk_puti (pc' := 5) hC fl_X5_50 fp_X5_0 (by first | decide | assumption | omega) (by first | rfl | assumption) rfl rfl rfl ⟨dX5_fill_2, rfl⟩ ?_
  change zk_A 1 X E 5 _ _ (md_0 I) J
  refine zk_iload_n (pc' := 6) hC rfl ⟨dX5_fill_5, rfl⟩ ?_
  refine zk_iconst (pc' := 7) (x := nI 1) hC ⟨dX5_fill_6, rfl⟩ zc_iconst_1 ?_
  refine zk_bipush (pc' := 9) (x := nI 100) hC ⟨dX5_fill_7, rfl⟩ zc_bipush_100 ?_
  refine zk_callS1 (pc' := 12) hC ml_X5_54 ms_X5_in (c_X5_in X _ J (nI n) (nI 1) (nI 100)) (by decide) rfl rfl (Nat.le_of_ble_eq_true rfl) ⟨dX5_fill_9, rfl⟩ ?_
  rw [if_pos ((md_in_nI (by omega) (by decide) (by decide)).mpr ⟨hn1, hn2⟩)]
  refine zk_if_neN (pc' := 15) hC ⟨dX5_fill_12, rfl⟩ 20 (by decide) (by omega) (fun q => ?_) (fun q => ?_)
  · refine zk_aload_n (pc' := 21) hC rfl ⟨dX5_fill_20, rfl⟩ ?_
    first | refine zk_getiN (pc' := 24) hC fl_X5_161 (by first | decide | assumption | omega) (by first | rfl | assumption) rfl (by first | assumption | (rw [zk_u_s]; rfl) | (rw [hI]; rfl)) ⟨dX5_fill_21, rfl⟩ ?_ | refine zk_geti (pc' := 24) hC fl_X5_161 (by first | decide | assumption | omega) (by first | rfl | assumption) rfl ⟨dX5_fill_21, rfl⟩ ?_
    refine zk_if_eqN (pc' := 27) hC ⟨dX5_fill_24, rfl⟩ 35 (by decide) (by omega) (fun q2 => ?_) (fun q2 => ?_)
    · refine zk_bipush (pc' := 37) (x := (-3 : Int32)) hC ⟨dX5_fill_35, rfl⟩ zc_bipush_m3 ?_
      exact zk_iret (pc' := 38) hC hR rfl rfl rfl ⟨dX5_fill_37, rfl⟩
    · omega
  · omega

set_option maxHeartbeats 1000000 in
set_option maxRecDepth 100000 in
theorem c_X5_fill_ok (X : zk_X) (I : zk_I) (J : zk_J) {g0 : Nat → Int32} {th ks sz kd ln ps tg sc dn : Nat} (hI : I 0 = md_g g0 th ks sz 1 kd ln ps tg sc dn) {n : Nat} (hn1 : 1 ≤ n) (hn2 : n ≤ 100) (hw : fl_is kd ln ps tg (4 * sc) sc) (hdn : dn ≤ ps * 4 * ln) : zk_M 1 X yX5_fill cX5_fill 2 ((some .int)) (8, 201) [.ref (zk_ad X 0), .int (nI n)] I J (some (.int (nI (min n (ps * 4 * ln - dn))))) (zk_u (md_0 I) 0 (md_g g0 (0) ks sz (1) kd ln ps tg sc (dn + min n (ps * 4 * ln - dn)))) (mf_J J kd ln ps sc dn (min n (ps * 4 * ln - dn))) := by
  refine zk_M.intro (by decide) (lv := [some (.ref (zk_ad X 0)), some (.int (nI n))]) rfl rfl (fun E hC hR => ?_)
  have hI0 := md_0_g hI
  have hI := hI0
  refine zk_aload_n (pc' := 1) hC rfl ⟨dX5_fill_0, rfl⟩ ?_
  refine zk_iconst (pc' := 2) (x := nI 0) hC ⟨dX5_fill_1, rfl⟩ zc_iconst_0 ?_
  refine zk_puti (pc' := 5) hC fl_X5_50 fp_X5_0 (by first | decide | assumption | omega) (by first | rfl | assumption) rfl rfl rfl ⟨dX5_fill_2, rfl⟩ ?_
  change zk_A 1 X E 5 _ _ (md_0 I) J
  refine zk_iload_n (pc' := 6) hC rfl ⟨dX5_fill_5, rfl⟩ ?_
  refine zk_iconst (pc' := 7) (x := nI 1) hC ⟨dX5_fill_6, rfl⟩ zc_iconst_1 ?_
  refine zk_bipush (pc' := 9) (x := nI 100) hC ⟨dX5_fill_7, rfl⟩ zc_bipush_100 ?_
  refine zk_callS1 (pc' := 12) hC ml_X5_54 ms_X5_in (c_X5_in X _ J (nI n) (nI 1) (nI 100)) (by decide) rfl rfl (Nat.le_of_ble_eq_true rfl) ⟨dX5_fill_9, rfl⟩ ?_
  rw [if_pos ((md_in_nI (by omega) (by decide) (by decide)).mpr ⟨hn1, hn2⟩)]
  refine zk_if_neN (pc' := 15) hC ⟨dX5_fill_12, rfl⟩ 20 (by decide) (by omega) (fun q => ?_) (fun q => ?_)
  · refine zk_aload_n (pc' := 21) hC rfl ⟨dX5_fill_20, rfl⟩ ?_
    first | refine zk_getiN (pc' := 24) hC fl_X5_161 (by first | decide | assumption | omega) (by first | rfl | assumption) rfl (by first | assumption | (rw [zk_u_s]; rfl) | (rw [hI]; rfl)) ⟨dX5_fill_21, rfl⟩ ?_ | refine zk_geti (pc' := 24) hC fl_X5_161 (by first | decide | assumption | omega) (by first | rfl | assumption) rfl ⟨dX5_fill_21, rfl⟩ ?_
    refine zk_if_eqN (pc' := 27) hC ⟨dX5_fill_24, rfl⟩ 35 (by decide) (by omega) (fun q2 => ?_) (fun q2 => ?_)
    · omega
    · refine zk_aload_n (pc' := 28) hC rfl ⟨dX5_fill_27, rfl⟩ ?_
      refine zk_iload_n (pc' := 29) hC rfl ⟨dX5_fill_28, rfl⟩ ?_
      refine zk_callV1 (pc' := 32) hC ml_X5_228 mi_X5_fillSome (c_X5_fillSome X _ J hI (n := n) (by omega) hw hdn) (by decide) (by first | decide | assumption | omega) (by first | rfl | assumption) rfl rfl rfl (Nat.le_of_ble_eq_true rfl) ⟨dX5_fill_29, rfl⟩ ?_
      refine zk_goto (pc' := 35) hC ⟨dX5_fill_32, rfl⟩ 37 (by decide) ?_
      exact zk_iret (pc' := 38) hC hR rfl rfl rfl ⟨dX5_fill_37, rfl⟩
  · omega

def md_wd (f : Nat → Int64) (bg nb : Nat) (x y : Int32) : Int64 := if bg = 0 then lN 0 else if x < 0 then lN 0 else if nI nb ≤ x then lN 0 else if y < 0 then lN 0 else if y < nI 128 then f (128 * x.toNatClampNeg + y.toNatClampNeg) else lN 0
theorem md_in127 (y : Int32) : md_in y (nI 0) (nI 127) ↔ ¬ y < 0 ∧ y < nI 128 := by
  unfold md_in
  rw [nI_0]
  refine and_congr_right (fun h => ?_)
  rw [Int32.lt_iff_toInt_lt, Int32.lt_iff_toInt_lt, nI_toInt (by decide), nI_toInt (by decide)]
  omega

set_option maxHeartbeats 1000000 in
set_option maxRecDepth 100000 in
theorem c_X5_word (X : zk_X) (I : zk_I) (J : zk_J) {g0 : Nat → Int32} {th ks sz bg kd ln ps tg sc dn : Nat} (hI : I 0 = md_g g0 th ks sz bg kd ln ps tg sc dn) (x y : Int32) (hbg : bg < 2) (hnb : 4 * sc * ln ≤ 128) : zk_M 1 X yX5_word cX5_word 3 ((some .long)) (1, 22) [.ref (zk_ad X 0), .int x, .int y] I J (some (.long (md_wd (J 9) bg (4 * sc * ln) x y))) (md_0 I) J := by
  refine zk_M.intro (by decide) (lv := [some (.ref (zk_ad X 0)), some (.int x), some (.int y)]) rfl rfl (fun E hC hR => ?_)
  have hI0 := md_0_g hI
  have hI := hI0
  refine zk_aload_n (pc' := 1) hC rfl ⟨dX5_word_0, rfl⟩ ?_
  refine zk_iconst (pc' := 2) (x := nI 0) hC ⟨dX5_word_1, rfl⟩ zc_iconst_0 ?_
  refine zk_puti (pc' := 5) hC fl_X5_50 fp_X5_0 (by first | decide | assumption | omega) (by first | rfl | assumption) rfl rfl rfl ⟨dX5_word_2, rfl⟩ ?_
  change zk_A 1 X E 5 _ _ (md_0 I) J
  refine zk_aload_n (pc' := 6) hC rfl ⟨dX5_word_5, rfl⟩ ?_
  first | refine zk_getiN (pc' := 9) hC fl_X5_161 (by first | decide | assumption | omega) (by first | rfl | assumption) rfl (by first | assumption | (rw [zk_u_s]; rfl) | (rw [hI]; rfl)) ⟨dX5_word_6, rfl⟩ ?_ | refine zk_geti (pc' := 9) hC fl_X5_161 (by first | decide | assumption | omega) (by first | rfl | assumption) rfl ⟨dX5_word_6, rfl⟩ ?_
  refine zk_if_eqN (pc' := 12) hC ⟨dX5_word_9, rfl⟩ 58 (by decide) (by omega) (fun q => ?_) (fun q => ?_)
  · rw [md_wd, if_pos q] at hR
    refine zk_lconst (pc' := 59) (x := lN 0) hC ⟨dX5_word_58, rfl⟩ rfl ?_
    exact zk_lret (pc' := 60) hC hR rfl rfl rfl ⟨dX5_word_59, rfl⟩
  · refine zk_iload_n (pc' := 13) hC rfl ⟨dX5_word_12, rfl⟩ ?_
    refine zk_iconst (pc' := 14) (x := nI 0) hC ⟨dX5_word_13, rfl⟩ zc_iconst_0 ?_
    refine zk_iconst (pc' := 15) (x := nI 4) hC ⟨dX5_word_14, rfl⟩ zc_iconst_4 ?_
    refine zk_aload_n (pc' := 16) hC rfl ⟨dX5_word_15, rfl⟩ ?_
    first | refine zk_getiN (pc' := 19) hC fl_X5_177 (by first | decide | assumption | omega) (by first | rfl | assumption) rfl (by first | assumption | (rw [zk_u_s]; rfl) | (rw [hI]; rfl)) ⟨dX5_word_16, rfl⟩ ?_ | refine zk_geti (pc' := 19) hC fl_X5_177 (by first | decide | assumption | omega) (by first | rfl | assumption) rfl ⟨dX5_word_16, rfl⟩ ?_
    first | refine zk_imulN (pc' := 20) hC ⟨dX5_word_19, rfl⟩ ?_ | refine zk_imul (pc' := 20) hC ⟨dX5_word_19, rfl⟩ ?_
    refine zk_aload_n (pc' := 21) hC rfl ⟨dX5_word_20, rfl⟩ ?_
    first | refine zk_getiN (pc' := 24) hC fl_X5_168 (by first | decide | assumption | omega) (by first | rfl | assumption) rfl (by first | assumption | (rw [zk_u_s]; rfl) | (rw [hI]; rfl)) ⟨dX5_word_21, rfl⟩ ?_ | refine zk_geti (pc' := 24) hC fl_X5_168 (by first | decide | assumption | omega) (by first | rfl | assumption) rfl ⟨dX5_word_21, rfl⟩ ?_
    first | refine zk_imulN (pc' := 25) hC ⟨dX5_word_24, rfl⟩ ?_ | refine zk_imul (pc' := 25) hC ⟨dX5_word_24, rfl⟩ ?_
    refine zk_iconst (pc' := 26) (x := nI 1) hC ⟨dX5_word_25, rfl⟩ zc_iconst_1 ?_
    refine zk_isub (pc' := 27) hC ⟨dX5_word_26, rfl⟩ ?_
    refine zk_callS1 (pc' := 30) hC ml_X5_54 ms_X5_in (c_X5_in X _ J x (nI 0) (nI (4 * sc * ln) - nI 1)) (by decide) rfl rfl (Nat.le_of_ble_eq_true rfl) ⟨dX5_word_27, rfl⟩ ?_
    rw [md_if (md_inc (by omega))]
    by_cases h : ¬ x < 0 ∧ ¬ nI (4 * sc * ln) ≤ x
    · skip
      rw [if_pos h]
      refine zk_if_eqN (pc' := 33) hC ⟨dX5_word_30, rfl⟩ 58 (by decide) (by omega) (fun q2 => ?_) (fun q2 => ?_)
      · omega
      · refine zk_iload_n (pc' := 34) hC rfl ⟨dX5_word_33, rfl⟩ ?_
        refine zk_iconst (pc' := 35) (x := nI 0) hC ⟨dX5_word_34, rfl⟩ zc_iconst_0 ?_
        refine zk_bipush (pc' := 37) (x := nI 127) hC ⟨dX5_word_35, rfl⟩ zc_bipush_127 ?_
        refine zk_callS1 (pc' := 40) hC ml_X5_54 ms_X5_in (c_X5_in X _ J y (nI 0) (nI 127)) (by decide) rfl rfl (Nat.le_of_ble_eq_true rfl) ⟨dX5_word_37, rfl⟩ ?_
        rw [md_if (md_in127 y)]
        by_cases h2 : ¬ y < 0 ∧ y < nI 128
        · skip
          rw [if_pos h2]
          refine zk_if_eqN (pc' := 43) hC ⟨dX5_word_40, rfl⟩ 58 (by decide) (by omega) (fun q3 => ?_) (fun q3 => ?_)
          · omega
          · rw [md_wd, if_neg (by omega), if_neg h.1, if_neg h.2, if_neg h2.1, if_pos h2.2] at hR
            obtain ⟨b, hb, rfl⟩ := nI_of h.1
            obtain ⟨k, hk, rfl⟩ := nI_of h2.1
            have hbn : b < 4 * sc * ln := Nat.not_le.mp fun z => h.2 (nI_le z hb)
            have hk8 : k < 128 := Nat.not_le.mp fun z => nI_nlt z hk h2.2
            rw [nI_clamp hb, nI_clamp hk] at hR
            refine zk_aload_n (pc' := 44) hC rfl ⟨dX5_word_43, rfl⟩ ?_
            refine zk_getr (pc' := 47) hC fl_X5_35 (by first | decide | assumption | omega) (by first | rfl | assumption) rfl ⟨dX5_word_44, rfl⟩ ?_
            refine zk_sipush (pc' := 50) (x := nI 128) hC ⟨dX5_word_47, rfl⟩ zc_sipush_128 ?_
            refine zk_iload_n (pc' := 51) hC rfl ⟨dX5_word_50, rfl⟩ ?_
            first | refine zk_imulN (pc' := 52) hC ⟨dX5_word_51, rfl⟩ ?_ | refine zk_imul (pc' := 52) hC ⟨dX5_word_51, rfl⟩ ?_
            refine zk_iload_n (pc' := 53) hC rfl ⟨dX5_word_52, rfl⟩ ?_
            first | refine zk_iaddN (pc' := 54) hC ⟨dX5_word_53, rfl⟩ ?_ | refine zk_iadd (pc' := 54) hC ⟨dX5_word_53, rfl⟩ ?_
            first | refine zk_laldU (pc' := 55) hC (by first | decide | assumption | omega) (by first | rfl | assumption) (by omega) (by first | decide | omega) ⟨dX5_word_54, rfl⟩ ?_ | refine zk_laldN (pc' := 55) hC (by first | decide | assumption | omega) (by first | rfl | assumption) (by omega) (by first | decide | omega) ⟨dX5_word_54, rfl⟩ ?_ | refine zk_t1N (pc' := 55) hC (by omega) ⟨dX5_word_54, rfl⟩ ?_
            refine zk_goto (pc' := 58) hC ⟨dX5_word_55, rfl⟩ 59 (by decide) ?_
            exact zk_lret (pc' := 60) hC hR rfl rfl rfl ⟨dX5_word_59, rfl⟩
        · skip
          rw [if_neg h2]
          refine zk_if_eqN (pc' := 43) hC ⟨dX5_word_40, rfl⟩ 58 (by decide) (by omega) (fun q3 => ?_) (fun q3 => ?_)
          · have hm : md_wd (J 9) bg (4 * sc * ln) x y = lN 0 := by unfold md_wd; split; rfl; split; rfl; split; rfl; split; rfl; split; exact absurd ⟨by assumption, by assumption⟩ h2; rfl
            rw [hm] at hR
            refine zk_lconst (pc' := 59) (x := lN 0) hC ⟨dX5_word_58, rfl⟩ rfl ?_
            exact zk_lret (pc' := 60) hC hR rfl rfl rfl ⟨dX5_word_59, rfl⟩
          · omega
    · skip
      rw [if_neg h]
      refine zk_if_eqN (pc' := 33) hC ⟨dX5_word_30, rfl⟩ 58 (by decide) (by omega) (fun q2 => ?_) (fun q2 => ?_)
      · have hm : md_wd (J 9) bg (4 * sc * ln) x y = lN 0 := by unfold md_wd; split; rfl; split; rfl; split; rfl; exact absurd ⟨by assumption, by assumption⟩ h
        rw [hm] at hR
        refine zk_lconst (pc' := 59) (x := lN 0) hC ⟨dX5_word_58, rfl⟩ rfl ?_
        exact zk_lret (pc' := 60) hC hR rfl rfl rfl ⟨dX5_word_59, rfl⟩
      · omega

def md_tx (f : Nat → Int64) (sc k : Nat) : Nat → Int64
  | 0 => lN 0
  | i + 1 => md_tx f sc k i ^^^ f (128 * (4 * sc * (i + 1) - 1) + k)
def md_tn (J : zk_J) (sc ln : Nat) : Nat → Int64 := fz_fill (J 10) (fun k => md_tx (J 9) sc k ln) 128
def md_tm (f : Nat → Int32) (w : Nat → Int64) : Nat → Nat → Int32
  | 0 => f
  | k + 1 => md_cp (md_tm f w k) (4 + 8 * k) (md_by (w k)) 8
/-- the tag: the last blocks together, LONG of them -/
def md_tg (I : zk_I) (J : zk_J) (g g64 : Nat → Int32) (sc ln tg : Nat) : zk_I × zk_J := md_L (mdm I (md_tm (I 4) (md_tn J sc ln) 128) g) (zk_u J 10 (md_tn J sc ln)) g g64 1028 tg

set_option maxHeartbeats 1000000 in
set_option maxRecDepth 100000 in
theorem c_X5_makeTag (X : zk_X) (I : zk_I) (J : zk_J) {g0 : Nat → Int32} {th sz bg kd ln ps tg sc dn : Nat} (hI : I 0 = md_g g0 th 0 sz bg kd ln ps tg sc dn) (hsc : 1 ≤ sc) (hnb : 4 * sc * ln ≤ 128) (hln : ln ≤ 4) (htg1 : 1 ≤ tg) (htg : tg ≤ 128) : zk_M 1 X yX5_makeTag cX5_makeTag 3 none (5, 125) [.ref (zk_ad X 0)] I J none (md_tg I J (md_g g0 th (0) (4 + 8 * 128) bg kd ln ps tg sc dn) (md_g g0 th (0) (64) bg kd ln ps tg sc dn) sc ln tg).1 (md_tg I J (md_g g0 th (0) (4 + 8 * 128) bg kd ln ps tg sc dn) (md_g g0 th (0) (64) bg kd ln ps tg sc dn) sc ln tg).2 := by
  refine zk_M.intro (by decide) (lv := [some (.ref (zk_ad X 0)), none, none]) rfl rfl (fun E hC hR => ?_)
  refine zk_iconst (pc' := 1) (x := nI 0) hC ⟨dX5_makeTag_0, rfl⟩ zc_iconst_0 ?_
  refine zk_is1 (pc' := 2) hC ⟨dX5_makeTag_1, rfl⟩ rfl ?_
  refine zk_eqJ (J' := zk_u J 10 (fz_fill (J 10) (fun k => md_tx (J 9) sc k ln) 0)) (by rw [fz_0, zk_u_self]) ?_
  refine zk_up (P := fun k => zk_A 1 X E 2 [some (.ref (zk_ad X 0)), some (.int (nI k)), none] [] I (zk_u J 10 (fz_fill (J 10) (fun k => md_tx (J 9) sc k ln) k))) 128 ?_ (fun k hk ih => ?_)
  · skip
    refine zk_iload_n (pc' := 3) hC rfl ⟨dX5_makeTag_2, rfl⟩ ?_
    refine zk_sipush (pc' := 6) (x := nI 128) hC ⟨dX5_makeTag_3, rfl⟩ zc_sipush_128 ?_
    refine zk_icmp_geN (pc' := 9) hC ⟨dX5_makeTag_6, rfl⟩ 70 (by decide) (by omega) (by omega) (fun q => ?_) (fun q => ?_)
    · change zk_A 1 X E 70 _ _ I (zk_u J 10 (md_tn J sc ln))
      unfold md_tg at hR
      generalize md_tn J sc ln = N at hR ⊢
      refine zk_aload_n (pc' := 71) hC rfl ⟨dX5_makeTag_70, rfl⟩ ?_
      refine zk_iconst (pc' := 72) (x := nI 4) hC ⟨dX5_makeTag_71, rfl⟩ zc_iconst_4 ?_
      refine zk_puti (pc' := 75) hC fl_X5_109 fp_X5_5 (by first | decide | assumption | omega) (by first | rfl | assumption) rfl rfl rfl ⟨dX5_makeTag_72, rfl⟩ ?_
      rw [hI, md_p5]
      refine zk_eqI (I' := mdm I (md_tm (I 4) N 0) (md_g g0 th (0) (4 + 8 * 0) bg kd ln ps tg sc dn)) (by rw [md_tm, mdm, zk_u_self]) ?_
      refine zk_iconst (pc' := 76) (x := nI 0) hC ⟨dX5_makeTag_75, rfl⟩ zc_iconst_0 ?_
      refine zk_is1 (pc' := 77) hC ⟨dX5_makeTag_76, rfl⟩ rfl ?_
      refine zk_up (P := fun k => zk_A 1 X E 77 [some (.ref (zk_ad X 0)), some (.int (nI k)), none] [] (mdm I (md_tm (I 4) N k) (md_g g0 th (0) (4 + 8 * k) bg kd ln ps tg sc dn)) (zk_u J 10 N)) 128 ?_ (fun k hk ih => ?_)
      · skip
        have hM0 := mdm_0 (I := I) (f := md_tm (I 4) N 128) (g := (md_g g0 th (0) (4 + 8 * 128) bg kd ln ps tg sc dn))
        have hMt : mdm I (md_tm (I 4) N 128) (md_g g0 th (0) (4 + 8 * 128) bg kd ln ps tg sc dn) 0 15 = nI tg := by rw [hM0]; rfl
        refine zk_iload_n (pc' := 78) hC rfl ⟨dX5_makeTag_77, rfl⟩ ?_
        refine zk_sipush (pc' := 81) (x := nI 128) hC ⟨dX5_makeTag_78, rfl⟩ zc_sipush_128 ?_
        refine zk_icmp_geN (pc' := 84) hC ⟨dX5_makeTag_81, rfl⟩ 102 (by decide) (by omega) (by omega) (fun q2 => ?_) (fun q2 => ?_)
        · refine zk_aload_n (pc' := 103) hC rfl ⟨dX5_makeTag_102, rfl⟩ ?_
          refine zk_aload_n (pc' := 104) hC rfl ⟨dX5_makeTag_103, rfl⟩ ?_
          first | refine zk_getiN (pc' := 107) hC fl_X5_174 (by first | decide | assumption | omega) (by first | rfl | assumption) rfl (by first | assumption | (rw [zk_u_s]; rfl) | (rw [hI]; rfl)) ⟨dX5_makeTag_104, rfl⟩ ?_ | refine zk_geti (pc' := 107) hC fl_X5_174 (by first | decide | assumption | omega) (by first | rfl | assumption) rfl ⟨dX5_makeTag_104, rfl⟩ ?_
          refine zk_callV0 (pc' := 110) hC ml_X5_155 mi_X5_longTo (c_X5_longTo X _ _ hM0 (n := tg) (by decide) htg1 (by omega)) (by decide) (by first | decide | assumption | omega) (by first | rfl | assumption) rfl rfl rfl (Nat.le_of_ble_eq_true rfl) ⟨dX5_makeTag_107, rfl⟩ ?_
          exact zk_vret (pc' := 111) hC hR rfl rfl rfl ⟨dX5_makeTag_110, rfl⟩
        · omega
      · skip
        have hM0 := mdm_0 (I := I) (f := md_tm (I 4) N k) (g := (md_g g0 th (0) (4 + 8 * k) bg kd ln ps tg sc dn))
        refine zk_iload_n (pc' := 78) hC rfl ⟨dX5_makeTag_77, rfl⟩ ?_
        refine zk_sipush (pc' := 81) (x := nI 128) hC ⟨dX5_makeTag_78, rfl⟩ zc_sipush_128 ?_
        refine zk_icmp_geN (pc' := 84) hC ⟨dX5_makeTag_81, rfl⟩ 102 (by decide) (by omega) (by omega) (fun q2 => ?_) (fun q2 => ?_)
        · omega
        · refine zk_aload_n (pc' := 85) hC rfl ⟨dX5_makeTag_84, rfl⟩ ?_
          refine zk_bipush (pc' := 87) (x := nI 8) hC ⟨dX5_makeTag_85, rfl⟩ zc_bipush_8 ?_
          refine zk_aload_n (pc' := 88) hC rfl ⟨dX5_makeTag_87, rfl⟩ ?_
          refine zk_getr (pc' := 91) hC fl_X5_38 (by first | decide | assumption | omega) (by first | rfl | assumption) rfl ⟨dX5_makeTag_88, rfl⟩ ?_
          refine zk_iload_n (pc' := 92) hC rfl ⟨dX5_makeTag_91, rfl⟩ ?_
          first | refine zk_laldU (pc' := 93) hC (by first | decide | assumption | omega) (by first | rfl | assumption) (by omega) (by first | decide | omega) ⟨dX5_makeTag_92, rfl⟩ ?_ | refine zk_laldN (pc' := 93) hC (by first | decide | assumption | omega) (by first | rfl | assumption) (by omega) (by first | decide | omega) ⟨dX5_makeTag_92, rfl⟩ ?_ | refine zk_t1N (pc' := 93) hC (by omega) ⟨dX5_makeTag_92, rfl⟩ ?_
          refine zk_callV0 (pc' := 96) hC ml_X5_144 mi_X5_put (c_X5_put X _ _ hM0 (n := 8) (N k) (by decide) (by omega)) (by decide) (by first | decide | assumption | omega) (by first | rfl | assumption) rfl rfl rfl (Nat.le_of_ble_eq_true rfl) ⟨dX5_makeTag_93, rfl⟩ ?_
          rw [mdm_4, mdm_mdm]
          rw [show 4 + 8 * k + 8 = 4 + 8 * (k + 1) by omega]
          first | refine zk_in1 (pc' := 99) hC ⟨dX5_makeTag_96, rfl⟩ ?_ | refine zk_iincG (pc' := 99) hC ⟨dX5_makeTag_96, rfl⟩ rfl ?_
          refine zk_goto (pc' := 102) hC ⟨dX5_makeTag_99, rfl⟩ 77 (by decide) ?_
          exact ih
    · omega
  · skip
    refine zk_iload_n (pc' := 3) hC rfl ⟨dX5_makeTag_2, rfl⟩ ?_
    refine zk_sipush (pc' := 6) (x := nI 128) hC ⟨dX5_makeTag_3, rfl⟩ zc_sipush_128 ?_
    refine zk_icmp_geN (pc' := 9) hC ⟨dX5_makeTag_6, rfl⟩ 70 (by decide) (by omega) (by omega) (fun q => ?_) (fun q => ?_)
    · omega
    · refine zk_aload_n (pc' := 10) hC rfl ⟨dX5_makeTag_9, rfl⟩ ?_
      refine zk_getr (pc' := 13) hC fl_X5_38 (by first | decide | assumption | omega) (by first | rfl | assumption) rfl ⟨dX5_makeTag_10, rfl⟩ ?_
      refine zk_iload_n (pc' := 14) hC rfl ⟨dX5_makeTag_13, rfl⟩ ?_
      refine zk_lconst (pc' := 15) (x := lN 0) hC ⟨dX5_makeTag_14, rfl⟩ rfl ?_
      first | refine zk_lastU (pc' := 16) hC (by first | decide | assumption | omega) (by first | rfl | assumption) (by omega) (by first | decide | omega) ⟨dX5_makeTag_15, rfl⟩ ?_ | refine zk_lastN (pc' := 16) hC (by first | decide | assumption | omega) (by first | rfl | assumption) (by omega) (by first | decide | omega) ⟨dX5_makeTag_15, rfl⟩ ?_
      generalize hF : fz_fill (J 10) (fun k => md_tx (J 9) sc k ln) k = Fk
      refine zk_iconst (pc' := 17) (x := nI 0) hC ⟨dX5_makeTag_16, rfl⟩ zc_iconst_0 ?_
      refine zk_is2 (pc' := 18) hC ⟨dX5_makeTag_17, rfl⟩ rfl ?_
      refine zk_up (P := fun i => zk_A 1 X E 18 [some (.ref (zk_ad X 0)), some (.int (nI k)), some (.int (nI i))] [] I (zk_u J 10 (vp_updL Fk k (md_tx (J 9) sc k i)))) ln ?_ (fun i hi ihi => ?_)
      · skip
        refine zk_iload_n (pc' := 19) hC rfl ⟨dX5_makeTag_18, rfl⟩ ?_
        refine zk_aload_n (pc' := 20) hC rfl ⟨dX5_makeTag_19, rfl⟩ ?_
        first | refine zk_getiN (pc' := 23) hC fl_X5_168 (by first | decide | assumption | omega) (by first | rfl | assumption) rfl (by first | assumption | (rw [zk_u_s]; rfl) | (rw [hI]; rfl)) ⟨dX5_makeTag_20, rfl⟩ ?_ | refine zk_geti (pc' := 23) hC fl_X5_168 (by first | decide | assumption | omega) (by first | rfl | assumption) rfl ⟨dX5_makeTag_20, rfl⟩ ?_
        refine zk_icmp_geN (pc' := 26) hC ⟨dX5_makeTag_23, rfl⟩ 64 (by decide) (by omega) (by omega) (fun q3 => ?_) (fun q3 => ?_)
        · refine zk_fg2 ?_
          rw [← hF, fz_S _ _ k rfl]
          first | refine zk_in1 (pc' := 67) hC ⟨dX5_makeTag_64, rfl⟩ ?_ | refine zk_iincG (pc' := 67) hC ⟨dX5_makeTag_64, rfl⟩ rfl ?_
          refine zk_goto (pc' := 70) hC ⟨dX5_makeTag_67, rfl⟩ 2 (by decide) ?_
          exact ih
        · omega
      · skip
        have hm1 : 4 * sc * (i + 1) ≤ 4 * sc * ln := Nat.mul_le_mul_left _ (by omega)
        have hm0 : 4 * sc ≤ 4 * sc * (i + 1) := Nat.le_mul_of_pos_right _ (by omega)
        refine zk_iload_n (pc' := 19) hC rfl ⟨dX5_makeTag_18, rfl⟩ ?_
        refine zk_aload_n (pc' := 20) hC rfl ⟨dX5_makeTag_19, rfl⟩ ?_
        first | refine zk_getiN (pc' := 23) hC fl_X5_168 (by first | decide | assumption | omega) (by first | rfl | assumption) rfl (by first | assumption | (rw [zk_u_s]; rfl) | (rw [hI]; rfl)) ⟨dX5_makeTag_20, rfl⟩ ?_ | refine zk_geti (pc' := 23) hC fl_X5_168 (by first | decide | assumption | omega) (by first | rfl | assumption) rfl ⟨dX5_makeTag_20, rfl⟩ ?_
        refine zk_icmp_geN (pc' := 26) hC ⟨dX5_makeTag_23, rfl⟩ 64 (by decide) (by omega) (by omega) (fun q3 => ?_) (fun q3 => ?_)
        · omega
        · refine zk_aload_n (pc' := 27) hC rfl ⟨dX5_makeTag_26, rfl⟩ ?_
          refine zk_getr (pc' := 30) hC fl_X5_38 (by first | decide | assumption | omega) (by first | rfl | assumption) rfl ⟨dX5_makeTag_27, rfl⟩ ?_
          refine zk_iload_n (pc' := 31) hC rfl ⟨dX5_makeTag_30, rfl⟩ ?_
          refine zk_dup2 (pc' := 32) hC ⟨dX5_makeTag_31, rfl⟩ rfl rfl ?_
          first | refine zk_laldU (pc' := 33) hC (by first | decide | assumption | omega) (by first | rfl | assumption) (by omega) (by first | decide | omega) ⟨dX5_makeTag_32, rfl⟩ ?_ | refine zk_laldN (pc' := 33) hC (by first | decide | assumption | omega) (by first | rfl | assumption) (by omega) (by first | decide | omega) ⟨dX5_makeTag_32, rfl⟩ ?_ | refine zk_t1N (pc' := 33) hC (by omega) ⟨dX5_makeTag_32, rfl⟩ ?_
          rw [pk_uLs]
          refine zk_aload_n (pc' := 34) hC rfl ⟨dX5_makeTag_33, rfl⟩ ?_
          refine zk_getr (pc' := 37) hC fl_X5_35 (by first | decide | assumption | omega) (by first | rfl | assumption) rfl ⟨dX5_makeTag_34, rfl⟩ ?_
          refine zk_sipush (pc' := 40) (x := nI 128) hC ⟨dX5_makeTag_37, rfl⟩ zc_sipush_128 ?_
          refine zk_iconst (pc' := 41) (x := nI 4) hC ⟨dX5_makeTag_40, rfl⟩ zc_iconst_4 ?_
          refine zk_aload_n (pc' := 42) hC rfl ⟨dX5_makeTag_41, rfl⟩ ?_
          first | refine zk_getiN (pc' := 45) hC fl_X5_177 (by first | decide | assumption | omega) (by first | rfl | assumption) rfl (by first | assumption | (rw [zk_u_s]; rfl) | (rw [hI]; rfl)) ⟨dX5_makeTag_42, rfl⟩ ?_ | refine zk_geti (pc' := 45) hC fl_X5_177 (by first | decide | assumption | omega) (by first | rfl | assumption) rfl ⟨dX5_makeTag_42, rfl⟩ ?_
          first | refine zk_imulN (pc' := 46) hC ⟨dX5_makeTag_45, rfl⟩ ?_ | refine zk_imul (pc' := 46) hC ⟨dX5_makeTag_45, rfl⟩ ?_
          refine zk_iload_n (pc' := 47) hC rfl ⟨dX5_makeTag_46, rfl⟩ ?_
          refine zk_iconst (pc' := 48) (x := nI 1) hC ⟨dX5_makeTag_47, rfl⟩ zc_iconst_1 ?_
          first | refine zk_iaddN (pc' := 49) hC ⟨dX5_makeTag_48, rfl⟩ ?_ | refine zk_iadd (pc' := 49) hC ⟨dX5_makeTag_48, rfl⟩ ?_
          first | refine zk_imulN (pc' := 50) hC ⟨dX5_makeTag_49, rfl⟩ ?_ | refine zk_imul (pc' := 50) hC ⟨dX5_makeTag_49, rfl⟩ ?_
          refine zk_iconst (pc' := 51) (x := nI 1) hC ⟨dX5_makeTag_50, rfl⟩ zc_iconst_1 ?_
          first | refine zk_isubN (pc' := 52) hC ⟨dX5_makeTag_51, rfl⟩ (by omega) ?_ | refine zk_isub (pc' := 52) hC ⟨dX5_makeTag_51, rfl⟩ ?_
          first | refine zk_imulN (pc' := 53) hC ⟨dX5_makeTag_52, rfl⟩ ?_ | refine zk_imul (pc' := 53) hC ⟨dX5_makeTag_52, rfl⟩ ?_
          refine zk_iload_n (pc' := 54) hC rfl ⟨dX5_makeTag_53, rfl⟩ ?_
          first | refine zk_iaddN (pc' := 55) hC ⟨dX5_makeTag_54, rfl⟩ ?_ | refine zk_iadd (pc' := 55) hC ⟨dX5_makeTag_54, rfl⟩ ?_
          first | refine zk_laldU (pc' := 56) hC (by first | decide | assumption | omega) (by first | rfl | assumption) (by omega) (by first | decide | omega) ⟨dX5_makeTag_55, rfl⟩ ?_ | refine zk_laldN (pc' := 56) hC (by first | decide | assumption | omega) (by first | rfl | assumption) (by omega) (by first | decide | omega) ⟨dX5_makeTag_55, rfl⟩ ?_ | refine zk_t1N (pc' := 56) hC (by omega) ⟨dX5_makeTag_55, rfl⟩ ?_
          rw [zk_u_n (show 9 ≠ 10 by decide)]
          refine zk_lxor (pc' := 57) hC ⟨dX5_makeTag_56, rfl⟩ ?_
          first | refine zk_lastU (pc' := 58) hC (by first | decide | assumption | omega) (by first | rfl | assumption) (by omega) (by first | decide | omega) ⟨dX5_makeTag_57, rfl⟩ ?_ | refine zk_lastN (pc' := 58) hC (by first | decide | assumption | omega) (by first | rfl | assumption) (by omega) (by first | decide | omega) ⟨dX5_makeTag_57, rfl⟩ ?_
          rw [vp_updL_updL]
          first | refine zk_in2 (pc' := 61) hC ⟨dX5_makeTag_58, rfl⟩ ?_ | refine zk_iincG (pc' := 61) hC ⟨dX5_makeTag_58, rfl⟩ rfl ?_
          refine zk_goto (pc' := 64) hC ⟨dX5_makeTag_61, rfl⟩ 18 (by decide) ?_
          exact ihi

set_option maxHeartbeats 1000000 in
set_option maxRecDepth 100000 in
theorem c_X5_tag_bad (X : zk_X) (I : zk_I) (J : zk_J) (t : Int32) (hbad : ¬ is_r t) : zk_M 1 X yX5_tag cX5_tag 2 ((some .int)) (6, 147) [.ref (zk_ad X 0), .int t] I J (some (.int (-2))) (md_0 I) J := by
  refine zk_M.intro (by decide) (lv := [some (.ref (zk_ad X 0)), some (.int t)]) rfl rfl (fun E hC hR => ?_)
  refine zk_aload_n (pc' := 1) hC rfl ⟨dX5_tag_0, rfl⟩ ?_
  refine zk_iconst (pc' := 2) (x := nI 0) hC ⟨dX5_tag_1, rfl⟩ zc_iconst_0 ?_
  refine zk_puti (pc' := 5) hC fl_X5_50 fp_X5_0 (by first | decide | assumption | omega) (by first | rfl | assumption) rfl rfl rfl ⟨dX5_tag_2, rfl⟩ ?_
  change zk_A 1 X E 5 _ _ (md_0 I) J
  refine zk_iload_n (pc' := 6) hC rfl ⟨dX5_tag_5, rfl⟩ ?_
  refine zk_callS1 (pc' := 9) hC ml_X5_58 ms_X5_isRegister (c_X5_isRegister X _ J t) (by decide) rfl rfl (Nat.le_of_ble_eq_true rfl) ⟨dX5_tag_6, rfl⟩ ?_
  rw [if_neg hbad]
  refine zk_if_neN (pc' := 12) hC ⟨dX5_tag_9, rfl⟩ 15 (by decide) (by omega) (fun q => ?_) (fun q => ?_)
  · omega
  · refine zk_bipush (pc' := 14) (x := (-2 : Int32)) hC ⟨dX5_tag_12, rfl⟩ zc_bipush_m2 ?_
    exact zk_iret (pc' := 15) hC hR rfl rfl rfl ⟨dX5_tag_14, rfl⟩

set_option maxHeartbeats 1000000 in
set_option maxRecDepth 100000 in
theorem c_X5_tag_ref (X : zk_X) (I : zk_I) (J : zk_J) {g0 : Nat → Int32} {th ks sz bg kd ln ps tg sc dn : Nat} (hI : I 0 = md_g g0 th ks sz bg kd ln ps tg sc dn) {t : Nat} (ht : t < 8) (hbg : bg < 2) (hsg : 4 * ln * ps ≤ 80) (hdn2 : dn ≤ 80) (hrf : bg = 0 ∨ dn < 4 * ln * ps) : zk_M 1 X yX5_tag cX5_tag 2 ((some .int)) (6, 147) [.ref (zk_ad X 0), .int (nI t)] I J (some (.int (-3))) (md_0 I) J := by
  refine zk_M.intro (by decide) (lv := [some (.ref (zk_ad X 0)), some (.int (nI t))]) rfl rfl (fun E hC hR => ?_)
  have hI0 := md_0_g hI
  have hI := hI0
  refine zk_aload_n (pc' := 1) hC rfl ⟨dX5_tag_0, rfl⟩ ?_
  refine zk_iconst (pc' := 2) (x := nI 0) hC ⟨dX5_tag_1, rfl⟩ zc_iconst_0 ?_
  refine zk_puti (pc' := 5) hC fl_X5_50 fp_X5_0 (by first | decide | assumption | omega) (by first | rfl | assumption) rfl rfl rfl ⟨dX5_tag_2, rfl⟩ ?_
  change zk_A 1 X E 5 _ _ (md_0 I) J
  refine zk_iload_n (pc' := 6) hC rfl ⟨dX5_tag_5, rfl⟩ ?_
  refine zk_callS1 (pc' := 9) hC ml_X5_58 ms_X5_isRegister (c_X5_isRegister X _ J (nI t)) (by decide) rfl rfl (Nat.le_of_ble_eq_true rfl) ⟨dX5_tag_6, rfl⟩ ?_
  rw [if_pos (is_r_nI ht)]
  refine zk_if_neN (pc' := 12) hC ⟨dX5_tag_9, rfl⟩ 15 (by decide) (by omega) (fun q => ?_) (fun q => ?_)
  · refine zk_aload_n (pc' := 16) hC rfl ⟨dX5_tag_15, rfl⟩ ?_
    first | refine zk_getiN (pc' := 19) hC fl_X5_161 (by first | decide | assumption | omega) (by first | rfl | assumption) rfl (by first | assumption | (rw [zk_u_s]; rfl) | (rw [hI]; rfl)) ⟨dX5_tag_16, rfl⟩ ?_ | refine zk_geti (pc' := 19) hC fl_X5_161 (by first | decide | assumption | omega) (by first | rfl | assumption) rfl ⟨dX5_tag_16, rfl⟩ ?_
    refine zk_if_eqN (pc' := 22) hC ⟨dX5_tag_19, rfl⟩ 40 (by decide) (by omega) (fun q2 => ?_) (fun q2 => ?_)
    · refine zk_bipush (pc' := 42) (x := (-3 : Int32)) hC ⟨dX5_tag_40, rfl⟩ zc_bipush_m3 ?_
      exact zk_iret (pc' := 43) hC hR rfl rfl rfl ⟨dX5_tag_42, rfl⟩
    · refine zk_aload_n (pc' := 23) hC rfl ⟨dX5_tag_22, rfl⟩ ?_
      first | refine zk_getiN (pc' := 26) hC fl_X5_180 (by first | decide | assumption | omega) (by first | rfl | assumption) rfl (by first | assumption | (rw [zk_u_s]; rfl) | (rw [hI]; rfl)) ⟨dX5_tag_23, rfl⟩ ?_ | refine zk_geti (pc' := 26) hC fl_X5_180 (by first | decide | assumption | omega) (by first | rfl | assumption) rfl ⟨dX5_tag_23, rfl⟩ ?_
      refine zk_iconst (pc' := 27) (x := nI 4) hC ⟨dX5_tag_26, rfl⟩ zc_iconst_4 ?_
      refine zk_aload_n (pc' := 28) hC rfl ⟨dX5_tag_27, rfl⟩ ?_
      first | refine zk_getiN (pc' := 31) hC fl_X5_168 (by first | decide | assumption | omega) (by first | rfl | assumption) rfl (by first | assumption | (rw [zk_u_s]; rfl) | (rw [hI]; rfl)) ⟨dX5_tag_28, rfl⟩ ?_ | refine zk_geti (pc' := 31) hC fl_X5_168 (by first | decide | assumption | omega) (by first | rfl | assumption) rfl ⟨dX5_tag_28, rfl⟩ ?_
      first | refine zk_imulN (pc' := 32) hC ⟨dX5_tag_31, rfl⟩ ?_ | refine zk_imul (pc' := 32) hC ⟨dX5_tag_31, rfl⟩ ?_
      refine zk_aload_n (pc' := 33) hC rfl ⟨dX5_tag_32, rfl⟩ ?_
      first | refine zk_getiN (pc' := 36) hC fl_X5_171 (by first | decide | assumption | omega) (by first | rfl | assumption) rfl (by first | assumption | (rw [zk_u_s]; rfl) | (rw [hI]; rfl)) ⟨dX5_tag_33, rfl⟩ ?_ | refine zk_geti (pc' := 36) hC fl_X5_171 (by first | decide | assumption | omega) (by first | rfl | assumption) rfl ⟨dX5_tag_33, rfl⟩ ?_
      first | refine zk_imulN (pc' := 37) hC ⟨dX5_tag_36, rfl⟩ ?_ | refine zk_imul (pc' := 37) hC ⟨dX5_tag_36, rfl⟩ ?_
      refine zk_icmp_geN (pc' := 40) hC ⟨dX5_tag_37, rfl⟩ 43 (by decide) (by omega) (by omega) (fun q3 => ?_) (fun q3 => ?_)
      · omega
      · refine zk_bipush (pc' := 42) (x := (-3 : Int32)) hC ⟨dX5_tag_40, rfl⟩ zc_bipush_m3 ?_
        exact zk_iret (pc' := 43) hC hR rfl rfl rfl ⟨dX5_tag_42, rfl⟩
  · omega

theorem md_L_0 {I : zk_I} {J : zk_J} {g g64 : Nat → Int32} {sz n : Nat} {k : Nat} {v : Int32} (h1 : g k = v) (h2 : g64 k = v) : (md_L I J g g64 sz n).1 0 k = v := by
  unfold md_L
  split
  · rw [md_l0_0]; exact h1
  · cases h : hz_turns n with
    | zero => rw [md_lr, md_l0_0]; exact h1
    | succ t => rw [md_lr, md_l1_0]; exact h2

set_option maxHeartbeats 1000000 in
set_option maxRecDepth 100000 in
theorem c_X5_tag_ok (X : zk_X) (I : zk_I) (J : zk_J) {g0 : Nat → Int32} {th sz kd ln ps tg sc dn : Nat} (hI : I 0 = md_g g0 th 0 sz 1 kd ln ps tg sc dn) {t : Nat} (ht : t < 8) (hsc : 1 ≤ sc) (hnb : 4 * sc * ln ≤ 128) (hln : ln ≤ 4) (htg1 : 1 ≤ tg) (htg : tg ≤ 128) (hsg : 4 * ln * ps ≤ 80) (hdn : dn = 4 * ln * ps) : zk_M 1 X yX5_tag cX5_tag 2 ((some .int)) (6, 147) [.ref (zk_ad X 0), .int (nI t)] I J (some (.int (nI tg))) (md_gv (md_tg (md_0 I) J (md_g g0 (0) (0) (4 + 8 * 128) (1) kd ln ps tg sc dn) (md_g g0 (0) (0) (64) (1) kd ln ps tg sc dn) sc ln tg).1 t tg) (md_tg (md_0 I) J (md_g g0 (0) (0) (4 + 8 * 128) (1) kd ln ps tg sc dn) (md_g g0 (0) (0) (64) (1) kd ln ps tg sc dn) sc ln tg).2 := by
  refine zk_M.intro (by decide) (lv := [some (.ref (zk_ad X 0)), some (.int (nI t))]) rfl rfl (fun E hC hR => ?_)
  have hI0 := md_0_g hI
  have hI := hI0
  refine zk_aload_n (pc' := 1) hC rfl ⟨dX5_tag_0, rfl⟩ ?_
  refine zk_iconst (pc' := 2) (x := nI 0) hC ⟨dX5_tag_1, rfl⟩ zc_iconst_0 ?_
  refine zk_puti (pc' := 5) hC fl_X5_50 fp_X5_0 (by first | decide | assumption | omega) (by first | rfl | assumption) rfl rfl rfl ⟨dX5_tag_2, rfl⟩ ?_
  change zk_A 1 X E 5 _ _ (md_0 I) J
  refine zk_iload_n (pc' := 6) hC rfl ⟨dX5_tag_5, rfl⟩ ?_
  refine zk_callS1 (pc' := 9) hC ml_X5_58 ms_X5_isRegister (c_X5_isRegister X _ J (nI t)) (by decide) rfl rfl (Nat.le_of_ble_eq_true rfl) ⟨dX5_tag_6, rfl⟩ ?_
  rw [if_pos (is_r_nI ht)]
  refine zk_if_neN (pc' := 12) hC ⟨dX5_tag_9, rfl⟩ 15 (by decide) (by omega) (fun q => ?_) (fun q => ?_)
  · refine zk_aload_n (pc' := 16) hC rfl ⟨dX5_tag_15, rfl⟩ ?_
    first | refine zk_getiN (pc' := 19) hC fl_X5_161 (by first | decide | assumption | omega) (by first | rfl | assumption) rfl (by first | assumption | (rw [zk_u_s]; rfl) | (rw [hI]; rfl)) ⟨dX5_tag_16, rfl⟩ ?_ | refine zk_geti (pc' := 19) hC fl_X5_161 (by first | decide | assumption | omega) (by first | rfl | assumption) rfl ⟨dX5_tag_16, rfl⟩ ?_
    refine zk_if_eqN (pc' := 22) hC ⟨dX5_tag_19, rfl⟩ 40 (by decide) (by omega) (fun q2 => ?_) (fun q2 => ?_)
    · omega
    · refine zk_aload_n (pc' := 23) hC rfl ⟨dX5_tag_22, rfl⟩ ?_
      first | refine zk_getiN (pc' := 26) hC fl_X5_180 (by first | decide | assumption | omega) (by first | rfl | assumption) rfl (by first | assumption | (rw [zk_u_s]; rfl) | (rw [hI]; rfl)) ⟨dX5_tag_23, rfl⟩ ?_ | refine zk_geti (pc' := 26) hC fl_X5_180 (by first | decide | assumption | omega) (by first | rfl | assumption) rfl ⟨dX5_tag_23, rfl⟩ ?_
      refine zk_iconst (pc' := 27) (x := nI 4) hC ⟨dX5_tag_26, rfl⟩ zc_iconst_4 ?_
      refine zk_aload_n (pc' := 28) hC rfl ⟨dX5_tag_27, rfl⟩ ?_
      first | refine zk_getiN (pc' := 31) hC fl_X5_168 (by first | decide | assumption | omega) (by first | rfl | assumption) rfl (by first | assumption | (rw [zk_u_s]; rfl) | (rw [hI]; rfl)) ⟨dX5_tag_28, rfl⟩ ?_ | refine zk_geti (pc' := 31) hC fl_X5_168 (by first | decide | assumption | omega) (by first | rfl | assumption) rfl ⟨dX5_tag_28, rfl⟩ ?_
      first | refine zk_imulN (pc' := 32) hC ⟨dX5_tag_31, rfl⟩ ?_ | refine zk_imul (pc' := 32) hC ⟨dX5_tag_31, rfl⟩ ?_
      refine zk_aload_n (pc' := 33) hC rfl ⟨dX5_tag_32, rfl⟩ ?_
      first | refine zk_getiN (pc' := 36) hC fl_X5_171 (by first | decide | assumption | omega) (by first | rfl | assumption) rfl (by first | assumption | (rw [zk_u_s]; rfl) | (rw [hI]; rfl)) ⟨dX5_tag_33, rfl⟩ ?_ | refine zk_geti (pc' := 36) hC fl_X5_171 (by first | decide | assumption | omega) (by first | rfl | assumption) rfl ⟨dX5_tag_33, rfl⟩ ?_
      first | refine zk_imulN (pc' := 37) hC ⟨dX5_tag_36, rfl⟩ ?_ | refine zk_imul (pc' := 37) hC ⟨dX5_tag_36, rfl⟩ ?_
      refine zk_icmp_geN (pc' := 40) hC ⟨dX5_tag_37, rfl⟩ 43 (by decide) (by omega) (by omega) (fun q3 => ?_) (fun q3 => ?_)
      · refine zk_aload_n (pc' := 44) hC rfl ⟨dX5_tag_43, rfl⟩ ?_
        refine zk_callV0 (pc' := 47) hC ml_X5_231 mi_X5_makeTag (c_X5_makeTag X _ J hI hsc hnb hln htg1 htg) (by decide) (by first | decide | assumption | omega) (by first | rfl | assumption) rfl rfl rfl (Nat.le_of_ble_eq_true rfl) ⟨dX5_tag_44, rfl⟩ ?_
        have hTt : (md_tg (md_0 I) J (md_g g0 (0) (0) (4 + 8 * 128) (1) kd ln ps tg sc dn) (md_g g0 (0) (0) (64) (1) kd ln ps tg sc dn) sc ln tg).1 0 15 = nI tg := md_L_0 rfl rfl
        generalize md_tg (md_0 I) J (md_g g0 (0) (0) (4 + 8 * 128) (1) kd ln ps tg sc dn) (md_g g0 (0) (0) (64) (1) kd ln ps tg sc dn) sc ln tg = S at hR hTt ⊢
        refine zk_aload_n (pc' := 48) hC rfl ⟨dX5_tag_47, rfl⟩ ?_
        refine zk_iload_n (pc' := 49) hC rfl ⟨dX5_tag_48, rfl⟩ ?_
        refine zk_aload_n (pc' := 50) hC rfl ⟨dX5_tag_49, rfl⟩ ?_
        first | refine zk_getiN (pc' := 53) hC fl_X5_174 (by first | decide | assumption | omega) (by first | rfl | assumption) rfl (by first | assumption | (rw [zk_u_s]; rfl) | (rw [hI]; rfl)) ⟨dX5_tag_50, rfl⟩ ?_ | refine zk_geti (pc' := 53) hC fl_X5_174 (by first | decide | assumption | omega) (by first | rfl | assumption) rfl ⟨dX5_tag_50, rfl⟩ ?_
        refine zk_callV0 (pc' := 56) hC ml_X5_152 mi_X5_give (c_X5_give X _ _ ht (by omega)) (by decide) (by first | decide | assumption | omega) (by first | rfl | assumption) rfl rfl rfl (Nat.le_of_ble_eq_true rfl) ⟨dX5_tag_53, rfl⟩ ?_
        change zk_A 1 X E 56 _ _ (md_gv S.1 t tg) S.2
        have hTt2 : md_gv S.1 t tg 0 15 = nI tg := by rw [md_gv, zk_u_n (by decide), zk_u_n (by decide)]; exact hTt
        refine zk_aload_n (pc' := 57) hC rfl ⟨dX5_tag_56, rfl⟩ ?_
        first | refine zk_getiN (pc' := 60) hC fl_X5_174 (by first | decide | assumption | omega) (by first | rfl | assumption) rfl (by first | assumption | (rw [zk_u_s]; rfl) | (rw [hI]; rfl)) ⟨dX5_tag_57, rfl⟩ ?_ | refine zk_geti (pc' := 60) hC fl_X5_174 (by first | decide | assumption | omega) (by first | rfl | assumption) rfl ⟨dX5_tag_57, rfl⟩ ?_
        exact zk_iret (pc' := 61) hC hR rfl rfl rfl ⟨dX5_tag_60, rfl⟩
      · omega
  · omega

set_option maxHeartbeats 1000000 in
set_option maxRecDepth 100000 in
theorem c_X5_told_bad (X : zk_X) (I : zk_I) (J : zk_J) (w : Int32) (hw : w < 0 ∨ nI 6 < w) : zk_M 1 X yX5_told cX5_told 2 ((some .int)) (1, 22) [.ref (zk_ad X 0), .int w] I J (some (.int (-2))) (md_0 I) J := by
  refine zk_M.intro (by decide) (lv := [some (.ref (zk_ad X 0)), some (.int w)]) rfl rfl (fun E hC hR => ?_)
  refine zk_aload_n (pc' := 1) hC rfl ⟨dX5_told_0, rfl⟩ ?_
  refine zk_iconst (pc' := 2) (x := nI 0) hC ⟨dX5_told_1, rfl⟩ zc_iconst_0 ?_
  refine zk_puti (pc' := 5) hC fl_X5_50 fp_X5_0 (by first | decide | assumption | omega) (by first | rfl | assumption) rfl rfl rfl ⟨dX5_told_2, rfl⟩ ?_
  change zk_A 1 X E 5 _ _ (md_0 I) J
  refine zk_iload_n (pc' := 6) hC rfl ⟨dX5_told_5, rfl⟩ ?_
  refine zk_iconst (pc' := 7) (x := nI 0) hC ⟨dX5_told_6, rfl⟩ zc_iconst_0 ?_
  refine zk_bipush (pc' := 9) (x := nI 6) hC ⟨dX5_told_7, rfl⟩ zc_bipush_6 ?_
  refine zk_callS1 (pc' := 12) hC ml_X5_54 ms_X5_in (c_X5_in X _ J w (nI 0) (nI 6)) (by decide) rfl rfl (Nat.le_of_ble_eq_true rfl) ⟨dX5_told_9, rfl⟩ ?_
  rw [if_neg (fun z => hw.elim (fun h => z.1 (by rw [nI_0]; exact h)) z.2)]
  refine zk_if_neN (pc' := 15) hC ⟨dX5_told_12, rfl⟩ 18 (by decide) (by omega) (fun q => ?_) (fun q => ?_)
  · omega
  · refine zk_bipush (pc' := 17) (x := (-2 : Int32)) hC ⟨dX5_told_15, rfl⟩ zc_bipush_m2 ?_
    exact zk_iret (pc' := 18) hC hR rfl rfl rfl ⟨dX5_told_17, rfl⟩

def md_ta (kd ln ps tg sc dn : Nat) (w : Nat) : Nat := match w with
  | 0 => kd
  | 1 => ln
  | 2 => ps
  | 3 => 4 * sc * ln
  | 4 => dn
  | 5 => 4 * ln * ps
  | _ => tg

set_option maxHeartbeats 1000000 in
set_option maxRecDepth 100000 in
theorem c_X5_told_ok (X : zk_X) (I : zk_I) (J : zk_J) {g0 : Nat → Int32} {th ks sz bg kd ln ps tg sc dn : Nat} (hI : I 0 = md_g g0 th ks sz bg kd ln ps tg sc dn) (w : Nat) (hw : w < 7) (hbg : bg < 2) : zk_M 1 X yX5_told cX5_told 2 ((some .int)) (1, 22) [.ref (zk_ad X 0), .int (nI w)] I J (some (.int (nI (if bg = 0 then 0 else md_ta kd ln ps tg sc dn w)))) (md_0 I) J := by
  refine zk_M.intro (by decide) (lv := [some (.ref (zk_ad X 0)), some (.int (nI w))]) rfl rfl (fun E hC hR => ?_)
  have hI0 := md_0_g hI
  have hI := hI0
  refine zk_aload_n (pc' := 1) hC rfl ⟨dX5_told_0, rfl⟩ ?_
  refine zk_iconst (pc' := 2) (x := nI 0) hC ⟨dX5_told_1, rfl⟩ zc_iconst_0 ?_
  refine zk_puti (pc' := 5) hC fl_X5_50 fp_X5_0 (by first | decide | assumption | omega) (by first | rfl | assumption) rfl rfl rfl ⟨dX5_told_2, rfl⟩ ?_
  change zk_A 1 X E 5 _ _ (md_0 I) J
  refine zk_iload_n (pc' := 6) hC rfl ⟨dX5_told_5, rfl⟩ ?_
  refine zk_iconst (pc' := 7) (x := nI 0) hC ⟨dX5_told_6, rfl⟩ zc_iconst_0 ?_
  refine zk_bipush (pc' := 9) (x := nI 6) hC ⟨dX5_told_7, rfl⟩ zc_bipush_6 ?_
  refine zk_callS1 (pc' := 12) hC ml_X5_54 ms_X5_in (c_X5_in X _ J (nI w) (nI 0) (nI 6)) (by decide) rfl rfl (Nat.le_of_ble_eq_true rfl) ⟨dX5_told_9, rfl⟩ ?_
  rw [if_pos ((md_in_nI (by omega) (by decide) (by decide)).mpr ⟨Nat.zero_le _, by omega⟩)]
  refine zk_if_neN (pc' := 15) hC ⟨dX5_told_12, rfl⟩ 18 (by decide) (by omega) (fun q => ?_) (fun q => ?_)
  · refine zk_aload_n (pc' := 19) hC rfl ⟨dX5_told_18, rfl⟩ ?_
    first | refine zk_getiN (pc' := 22) hC fl_X5_161 (by first | decide | assumption | omega) (by first | rfl | assumption) rfl (by first | assumption | (rw [zk_u_s]; rfl) | (rw [hI]; rfl)) ⟨dX5_told_19, rfl⟩ ?_ | refine zk_geti (pc' := 22) hC fl_X5_161 (by first | decide | assumption | omega) (by first | rfl | assumption) rfl ⟨dX5_told_19, rfl⟩ ?_
    refine zk_if_neN (pc' := 25) hC ⟨dX5_told_22, rfl⟩ 29 (by decide) (by omega) (fun q2 => ?_) (fun q2 => ?_)
    · rw [if_neg q2] at hR
      match w, hw with
      | 0, _ =>
        refine zk_iload_n (pc' := 30) hC rfl ⟨dX5_told_29, rfl⟩ ?_
        refine zk_if_neN (pc' := 33) hC ⟨dX5_told_30, rfl⟩ 40 (by decide) (by omega) (fun z0 => ?_) (fun z0 => ?_)
        · omega
        · refine zk_aload_n (pc' := 34) hC rfl ⟨dX5_told_33, rfl⟩ ?_
          first | refine zk_getiN (pc' := 37) hC fl_X5_165 (by first | decide | assumption | omega) (by first | rfl | assumption) rfl (by first | assumption | (rw [zk_u_s]; rfl) | (rw [hI]; rfl)) ⟨dX5_told_34, rfl⟩ ?_ | refine zk_geti (pc' := 37) hC fl_X5_165 (by first | decide | assumption | omega) (by first | rfl | assumption) rfl ⟨dX5_told_34, rfl⟩ ?_
          refine zk_goto (pc' := 40) hC ⟨dX5_told_37, rfl⟩ 118 (by decide) ?_
          exact zk_iret (pc' := 119) hC hR rfl rfl rfl ⟨dX5_told_118, rfl⟩
      | 1, _ =>
        refine zk_iload_n (pc' := 30) hC rfl ⟨dX5_told_29, rfl⟩ ?_
        refine zk_if_neN (pc' := 33) hC ⟨dX5_told_30, rfl⟩ 40 (by decide) (by omega) (fun z0 => ?_) (fun z0 => ?_)
        · refine zk_iload_n (pc' := 41) hC rfl ⟨dX5_told_40, rfl⟩ ?_
          refine zk_iconst (pc' := 42) (x := nI 1) hC ⟨dX5_told_41, rfl⟩ zc_iconst_1 ?_
          refine zk_icmp_neN (pc' := 45) hC ⟨dX5_told_42, rfl⟩ 52 (by decide) (by omega) (by omega) (fun z1 => ?_) (fun z1 => ?_)
          · omega
          · refine zk_aload_n (pc' := 46) hC rfl ⟨dX5_told_45, rfl⟩ ?_
            first | refine zk_getiN (pc' := 49) hC fl_X5_168 (by first | decide | assumption | omega) (by first | rfl | assumption) rfl (by first | assumption | (rw [zk_u_s]; rfl) | (rw [hI]; rfl)) ⟨dX5_told_46, rfl⟩ ?_ | refine zk_geti (pc' := 49) hC fl_X5_168 (by first | decide | assumption | omega) (by first | rfl | assumption) rfl ⟨dX5_told_46, rfl⟩ ?_
            refine zk_goto (pc' := 52) hC ⟨dX5_told_49, rfl⟩ 118 (by decide) ?_
            exact zk_iret (pc' := 119) hC hR rfl rfl rfl ⟨dX5_told_118, rfl⟩
        · omega
      | 2, _ =>
        refine zk_iload_n (pc' := 30) hC rfl ⟨dX5_told_29, rfl⟩ ?_
        refine zk_if_neN (pc' := 33) hC ⟨dX5_told_30, rfl⟩ 40 (by decide) (by omega) (fun z0 => ?_) (fun z0 => ?_)
        · refine zk_iload_n (pc' := 41) hC rfl ⟨dX5_told_40, rfl⟩ ?_
          refine zk_iconst (pc' := 42) (x := nI 1) hC ⟨dX5_told_41, rfl⟩ zc_iconst_1 ?_
          refine zk_icmp_neN (pc' := 45) hC ⟨dX5_told_42, rfl⟩ 52 (by decide) (by omega) (by omega) (fun z1 => ?_) (fun z1 => ?_)
          · refine zk_iload_n (pc' := 53) hC rfl ⟨dX5_told_52, rfl⟩ ?_
            refine zk_iconst (pc' := 54) (x := nI 2) hC ⟨dX5_told_53, rfl⟩ zc_iconst_2 ?_
            refine zk_icmp_neN (pc' := 57) hC ⟨dX5_told_54, rfl⟩ 64 (by decide) (by omega) (by omega) (fun z2 => ?_) (fun z2 => ?_)
            · omega
            · refine zk_aload_n (pc' := 58) hC rfl ⟨dX5_told_57, rfl⟩ ?_
              first | refine zk_getiN (pc' := 61) hC fl_X5_171 (by first | decide | assumption | omega) (by first | rfl | assumption) rfl (by first | assumption | (rw [zk_u_s]; rfl) | (rw [hI]; rfl)) ⟨dX5_told_58, rfl⟩ ?_ | refine zk_geti (pc' := 61) hC fl_X5_171 (by first | decide | assumption | omega) (by first | rfl | assumption) rfl ⟨dX5_told_58, rfl⟩ ?_
              refine zk_goto (pc' := 64) hC ⟨dX5_told_61, rfl⟩ 118 (by decide) ?_
              exact zk_iret (pc' := 119) hC hR rfl rfl rfl ⟨dX5_told_118, rfl⟩
          · omega
        · omega
      | 3, _ =>
        refine zk_iload_n (pc' := 30) hC rfl ⟨dX5_told_29, rfl⟩ ?_
        refine zk_if_neN (pc' := 33) hC ⟨dX5_told_30, rfl⟩ 40 (by decide) (by omega) (fun z0 => ?_) (fun z0 => ?_)
        · refine zk_iload_n (pc' := 41) hC rfl ⟨dX5_told_40, rfl⟩ ?_
          refine zk_iconst (pc' := 42) (x := nI 1) hC ⟨dX5_told_41, rfl⟩ zc_iconst_1 ?_
          refine zk_icmp_neN (pc' := 45) hC ⟨dX5_told_42, rfl⟩ 52 (by decide) (by omega) (by omega) (fun z1 => ?_) (fun z1 => ?_)
          · refine zk_iload_n (pc' := 53) hC rfl ⟨dX5_told_52, rfl⟩ ?_
            refine zk_iconst (pc' := 54) (x := nI 2) hC ⟨dX5_told_53, rfl⟩ zc_iconst_2 ?_
            refine zk_icmp_neN (pc' := 57) hC ⟨dX5_told_54, rfl⟩ 64 (by decide) (by omega) (by omega) (fun z2 => ?_) (fun z2 => ?_)
            · refine zk_iload_n (pc' := 65) hC rfl ⟨dX5_told_64, rfl⟩ ?_
              refine zk_iconst (pc' := 66) (x := nI 3) hC ⟨dX5_told_65, rfl⟩ zc_iconst_3 ?_
              refine zk_icmp_neN (pc' := 69) hC ⟨dX5_told_66, rfl⟩ 83 (by decide) (by omega) (by omega) (fun z3 => ?_) (fun z3 => ?_)
              · omega
              · refine zk_iconst (pc' := 70) (x := nI 4) hC ⟨dX5_told_69, rfl⟩ zc_iconst_4 ?_
                refine zk_aload_n (pc' := 71) hC rfl ⟨dX5_told_70, rfl⟩ ?_
                first | refine zk_getiN (pc' := 74) hC fl_X5_177 (by first | decide | assumption | omega) (by first | rfl | assumption) rfl (by first | assumption | (rw [zk_u_s]; rfl) | (rw [hI]; rfl)) ⟨dX5_told_71, rfl⟩ ?_ | refine zk_geti (pc' := 74) hC fl_X5_177 (by first | decide | assumption | omega) (by first | rfl | assumption) rfl ⟨dX5_told_71, rfl⟩ ?_
                first | refine zk_imulN (pc' := 75) hC ⟨dX5_told_74, rfl⟩ ?_ | refine zk_imul (pc' := 75) hC ⟨dX5_told_74, rfl⟩ ?_
                refine zk_aload_n (pc' := 76) hC rfl ⟨dX5_told_75, rfl⟩ ?_
                first | refine zk_getiN (pc' := 79) hC fl_X5_168 (by first | decide | assumption | omega) (by first | rfl | assumption) rfl (by first | assumption | (rw [zk_u_s]; rfl) | (rw [hI]; rfl)) ⟨dX5_told_76, rfl⟩ ?_ | refine zk_geti (pc' := 79) hC fl_X5_168 (by first | decide | assumption | omega) (by first | rfl | assumption) rfl ⟨dX5_told_76, rfl⟩ ?_
                first | refine zk_imulN (pc' := 80) hC ⟨dX5_told_79, rfl⟩ ?_ | refine zk_imul (pc' := 80) hC ⟨dX5_told_79, rfl⟩ ?_
                refine zk_goto (pc' := 83) hC ⟨dX5_told_80, rfl⟩ 118 (by decide) ?_
                exact zk_iret (pc' := 119) hC hR rfl rfl rfl ⟨dX5_told_118, rfl⟩
            · omega
          · omega
        · omega
      | 4, _ =>
        refine zk_iload_n (pc' := 30) hC rfl ⟨dX5_told_29, rfl⟩ ?_
        refine zk_if_neN (pc' := 33) hC ⟨dX5_told_30, rfl⟩ 40 (by decide) (by omega) (fun z0 => ?_) (fun z0 => ?_)
        · refine zk_iload_n (pc' := 41) hC rfl ⟨dX5_told_40, rfl⟩ ?_
          refine zk_iconst (pc' := 42) (x := nI 1) hC ⟨dX5_told_41, rfl⟩ zc_iconst_1 ?_
          refine zk_icmp_neN (pc' := 45) hC ⟨dX5_told_42, rfl⟩ 52 (by decide) (by omega) (by omega) (fun z1 => ?_) (fun z1 => ?_)
          · refine zk_iload_n (pc' := 53) hC rfl ⟨dX5_told_52, rfl⟩ ?_
            refine zk_iconst (pc' := 54) (x := nI 2) hC ⟨dX5_told_53, rfl⟩ zc_iconst_2 ?_
            refine zk_icmp_neN (pc' := 57) hC ⟨dX5_told_54, rfl⟩ 64 (by decide) (by omega) (by omega) (fun z2 => ?_) (fun z2 => ?_)
            · refine zk_iload_n (pc' := 65) hC rfl ⟨dX5_told_64, rfl⟩ ?_
              refine zk_iconst (pc' := 66) (x := nI 3) hC ⟨dX5_told_65, rfl⟩ zc_iconst_3 ?_
              refine zk_icmp_neN (pc' := 69) hC ⟨dX5_told_66, rfl⟩ 83 (by decide) (by omega) (by omega) (fun z3 => ?_) (fun z3 => ?_)
              · refine zk_iload_n (pc' := 84) hC rfl ⟨dX5_told_83, rfl⟩ ?_
                refine zk_iconst (pc' := 85) (x := nI 4) hC ⟨dX5_told_84, rfl⟩ zc_iconst_4 ?_
                refine zk_icmp_neN (pc' := 88) hC ⟨dX5_told_85, rfl⟩ 95 (by decide) (by omega) (by omega) (fun z4 => ?_) (fun z4 => ?_)
                · omega
                · refine zk_aload_n (pc' := 89) hC rfl ⟨dX5_told_88, rfl⟩ ?_
                  first | refine zk_getiN (pc' := 92) hC fl_X5_180 (by first | decide | assumption | omega) (by first | rfl | assumption) rfl (by first | assumption | (rw [zk_u_s]; rfl) | (rw [hI]; rfl)) ⟨dX5_told_89, rfl⟩ ?_ | refine zk_geti (pc' := 92) hC fl_X5_180 (by first | decide | assumption | omega) (by first | rfl | assumption) rfl ⟨dX5_told_89, rfl⟩ ?_
                  refine zk_goto (pc' := 95) hC ⟨dX5_told_92, rfl⟩ 118 (by decide) ?_
                  exact zk_iret (pc' := 119) hC hR rfl rfl rfl ⟨dX5_told_118, rfl⟩
              · omega
            · omega
          · omega
        · omega
      | 5, _ =>
        refine zk_iload_n (pc' := 30) hC rfl ⟨dX5_told_29, rfl⟩ ?_
        refine zk_if_neN (pc' := 33) hC ⟨dX5_told_30, rfl⟩ 40 (by decide) (by omega) (fun z0 => ?_) (fun z0 => ?_)
        · refine zk_iload_n (pc' := 41) hC rfl ⟨dX5_told_40, rfl⟩ ?_
          refine zk_iconst (pc' := 42) (x := nI 1) hC ⟨dX5_told_41, rfl⟩ zc_iconst_1 ?_
          refine zk_icmp_neN (pc' := 45) hC ⟨dX5_told_42, rfl⟩ 52 (by decide) (by omega) (by omega) (fun z1 => ?_) (fun z1 => ?_)
          · refine zk_iload_n (pc' := 53) hC rfl ⟨dX5_told_52, rfl⟩ ?_
            refine zk_iconst (pc' := 54) (x := nI 2) hC ⟨dX5_told_53, rfl⟩ zc_iconst_2 ?_
            refine zk_icmp_neN (pc' := 57) hC ⟨dX5_told_54, rfl⟩ 64 (by decide) (by omega) (by omega) (fun z2 => ?_) (fun z2 => ?_)
            · refine zk_iload_n (pc' := 65) hC rfl ⟨dX5_told_64, rfl⟩ ?_
              refine zk_iconst (pc' := 66) (x := nI 3) hC ⟨dX5_told_65, rfl⟩ zc_iconst_3 ?_
              refine zk_icmp_neN (pc' := 69) hC ⟨dX5_told_66, rfl⟩ 83 (by decide) (by omega) (by omega) (fun z3 => ?_) (fun z3 => ?_)
              · refine zk_iload_n (pc' := 84) hC rfl ⟨dX5_told_83, rfl⟩ ?_
                refine zk_iconst (pc' := 85) (x := nI 4) hC ⟨dX5_told_84, rfl⟩ zc_iconst_4 ?_
                refine zk_icmp_neN (pc' := 88) hC ⟨dX5_told_85, rfl⟩ 95 (by decide) (by omega) (by omega) (fun z4 => ?_) (fun z4 => ?_)
                · refine zk_iload_n (pc' := 96) hC rfl ⟨dX5_told_95, rfl⟩ ?_
                  refine zk_iconst (pc' := 97) (x := nI 5) hC ⟨dX5_told_96, rfl⟩ zc_iconst_5 ?_
                  refine zk_icmp_neN (pc' := 100) hC ⟨dX5_told_97, rfl⟩ 114 (by decide) (by omega) (by omega) (fun z5 => ?_) (fun z5 => ?_)
                  · omega
                  · refine zk_iconst (pc' := 101) (x := nI 4) hC ⟨dX5_told_100, rfl⟩ zc_iconst_4 ?_
                    refine zk_aload_n (pc' := 102) hC rfl ⟨dX5_told_101, rfl⟩ ?_
                    first | refine zk_getiN (pc' := 105) hC fl_X5_168 (by first | decide | assumption | omega) (by first | rfl | assumption) rfl (by first | assumption | (rw [zk_u_s]; rfl) | (rw [hI]; rfl)) ⟨dX5_told_102, rfl⟩ ?_ | refine zk_geti (pc' := 105) hC fl_X5_168 (by first | decide | assumption | omega) (by first | rfl | assumption) rfl ⟨dX5_told_102, rfl⟩ ?_
                    first | refine zk_imulN (pc' := 106) hC ⟨dX5_told_105, rfl⟩ ?_ | refine zk_imul (pc' := 106) hC ⟨dX5_told_105, rfl⟩ ?_
                    refine zk_aload_n (pc' := 107) hC rfl ⟨dX5_told_106, rfl⟩ ?_
                    first | refine zk_getiN (pc' := 110) hC fl_X5_171 (by first | decide | assumption | omega) (by first | rfl | assumption) rfl (by first | assumption | (rw [zk_u_s]; rfl) | (rw [hI]; rfl)) ⟨dX5_told_107, rfl⟩ ?_ | refine zk_geti (pc' := 110) hC fl_X5_171 (by first | decide | assumption | omega) (by first | rfl | assumption) rfl ⟨dX5_told_107, rfl⟩ ?_
                    first | refine zk_imulN (pc' := 111) hC ⟨dX5_told_110, rfl⟩ ?_ | refine zk_imul (pc' := 111) hC ⟨dX5_told_110, rfl⟩ ?_
                    refine zk_goto (pc' := 114) hC ⟨dX5_told_111, rfl⟩ 118 (by decide) ?_
                    exact zk_iret (pc' := 119) hC hR rfl rfl rfl ⟨dX5_told_118, rfl⟩
                · omega
              · omega
            · omega
          · omega
        · omega
      | 6, _ =>
        refine zk_iload_n (pc' := 30) hC rfl ⟨dX5_told_29, rfl⟩ ?_
        refine zk_if_neN (pc' := 33) hC ⟨dX5_told_30, rfl⟩ 40 (by decide) (by omega) (fun z0 => ?_) (fun z0 => ?_)
        · refine zk_iload_n (pc' := 41) hC rfl ⟨dX5_told_40, rfl⟩ ?_
          refine zk_iconst (pc' := 42) (x := nI 1) hC ⟨dX5_told_41, rfl⟩ zc_iconst_1 ?_
          refine zk_icmp_neN (pc' := 45) hC ⟨dX5_told_42, rfl⟩ 52 (by decide) (by omega) (by omega) (fun z1 => ?_) (fun z1 => ?_)
          · refine zk_iload_n (pc' := 53) hC rfl ⟨dX5_told_52, rfl⟩ ?_
            refine zk_iconst (pc' := 54) (x := nI 2) hC ⟨dX5_told_53, rfl⟩ zc_iconst_2 ?_
            refine zk_icmp_neN (pc' := 57) hC ⟨dX5_told_54, rfl⟩ 64 (by decide) (by omega) (by omega) (fun z2 => ?_) (fun z2 => ?_)
            · refine zk_iload_n (pc' := 65) hC rfl ⟨dX5_told_64, rfl⟩ ?_
              refine zk_iconst (pc' := 66) (x := nI 3) hC ⟨dX5_told_65, rfl⟩ zc_iconst_3 ?_
              refine zk_icmp_neN (pc' := 69) hC ⟨dX5_told_66, rfl⟩ 83 (by decide) (by omega) (by omega) (fun z3 => ?_) (fun z3 => ?_)
              · refine zk_iload_n (pc' := 84) hC rfl ⟨dX5_told_83, rfl⟩ ?_
                refine zk_iconst (pc' := 85) (x := nI 4) hC ⟨dX5_told_84, rfl⟩ zc_iconst_4 ?_
                refine zk_icmp_neN (pc' := 88) hC ⟨dX5_told_85, rfl⟩ 95 (by decide) (by omega) (by omega) (fun z4 => ?_) (fun z4 => ?_)
                · refine zk_iload_n (pc' := 96) hC rfl ⟨dX5_told_95, rfl⟩ ?_
                  refine zk_iconst (pc' := 97) (x := nI 5) hC ⟨dX5_told_96, rfl⟩ zc_iconst_5 ?_
                  refine zk_icmp_neN (pc' := 100) hC ⟨dX5_told_97, rfl⟩ 114 (by decide) (by omega) (by omega) (fun z5 => ?_) (fun z5 => ?_)
                  · refine zk_aload_n (pc' := 115) hC rfl ⟨dX5_told_114, rfl⟩ ?_
                    first | refine zk_getiN (pc' := 118) hC fl_X5_174 (by first | decide | assumption | omega) (by first | rfl | assumption) rfl (by first | assumption | (rw [zk_u_s]; rfl) | (rw [hI]; rfl)) ⟨dX5_told_115, rfl⟩ ?_ | refine zk_geti (pc' := 118) hC fl_X5_174 (by first | decide | assumption | omega) (by first | rfl | assumption) rfl ⟨dX5_told_115, rfl⟩ ?_
                    exact zk_iret (pc' := 119) hC hR rfl rfl rfl ⟨dX5_told_118, rfl⟩
                  · omega
                · omega
              · omega
            · omega
          · omega
        · omega
      | _ + 7, h => exact absurd h (by omega)
    · rw [if_pos q2] at hR
      refine zk_iconst (pc' := 26) (x := nI 0) hC ⟨dX5_told_25, rfl⟩ zc_iconst_0 ?_
      refine zk_goto (pc' := 29) hC ⟨dX5_told_26, rfl⟩ 118 (by decide) ?_
      exact zk_iret (pc' := 119) hC hR rfl rfl rfl ⟨dX5_told_118, rfl⟩
  · omega

