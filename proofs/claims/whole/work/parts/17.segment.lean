/-! A SEGMENT -/
def fl_ba (kd pa sl : Nat) : Nat := if kd = 1 ∨ (kd = 2 ∧ pa = 0 ∧ sl < 2) then 1 else 0
def fl_i0 (pa sl : Nat) : Nat := if pa = 0 ∧ sl = 0 then 2 else 0
def fl_adr (J : zk_J) (kd ps nb pa sl la : Nat) : zk_J := if fl_ba kd pa sl = 0 then J else jz_join (jz_join (zk_u J 33 (fl_ad (J 33) pa la sl nb ps kd)) 32 33 33 0) 32 33 33 0
def fl_bf (lb la j : Nat) : Nat := la * lb + (if j = 0 then lb else j) - 1
def fl_num (J : zk_J) (kd lb sb pa sl la i : Nat) : Int64 := if fl_ba kd pa sl = 0 then J (38 + fl_bf lb la (sl * sb + i)) 0 else J 33 (i % 128)
def fl_step (J : zk_J) (kd ln lb sb pa sl la i : Nat) : zk_J := jz_join J (38 + fl_bf lb la (sl * sb + i)) (38 + fl_far ln lb sb pa sl la i (fl_nn (fl_num J kd lb sb pa sl la i))) (38 + (la * lb + (sl * sb + i))) (if pa = 0 then 0 else 1)
def fl_loop (J : zk_J) (kd ln lb sb pa sl la : Nat) : Nat → zk_J
  | 0 => J
  | t + 1 => fl_step (fl_loop J kd ln lb sb pa sl la t) kd ln lb sb pa sl la (fl_i0 pa sl + t)
def fl_seg (J : zk_J) (kd ln ps lb sb pa sl la : Nat) : zk_J := fl_loop (fl_adr J kd ps (ln * lb) pa sl la) kd ln lb sb pa sl la (sb - fl_i0 pa sl)
theorem fl_jok {b : Nat} (hb : b < 128) : jz_ok (38 + b) := ⟨(fl_row hb).1, (fl_row hb).2, by omega, by omega, by omega⟩
theorem fl_jok32 : jz_ok 32 := ⟨by decide, rfl, by decide, by decide, by decide⟩
theorem fl_jok33 : jz_ok 33 := ⟨by decide, rfl, by decide, by decide, by decide⟩
abbrev fl_is (kd ln ps tg lb sb : Nat) : Prop := kd ≤ 2 ∧ 1 ≤ ln ∧ ln ≤ 4 ∧ 1 ≤ ps ∧ ps ≤ 5 ∧ tg ≤ 128 ∧ lb = 4 * sb ∧ 2 ≤ sb ∧ sb ≤ 32 ∧ ln * lb ≤ 128

set_option maxHeartbeats 1000000 in
set_option maxRecDepth 100000 in
theorem c_X1_doSegment (X : zk_X) (I : zk_I) (J : zk_J) {g0 : Nat → Int32} {kd ln ps tg lb sb dn pa0 sl0 la0 : Nat} (hI : I 30 = fl_g g0 kd ln ps tg lb sb dn pa0 sl0 la0) (hw : fl_is kd ln ps tg lb sb) (hdn : dn < ps * 4 * ln) : zk_M 0 X yX1_doSegment cX1_doSegment 9 none (4, 98) [.ref (zk_ad X 30)] I J none (zk_u I 30 (fl_g g0 kd ln ps tg lb sb (dn + 1) (dn / ln / 4) (dn / ln % 4) (dn % ln))) (fl_seg J kd ln ps lb sb (dn / ln / 4) (dn / ln % 4) (dn % ln)) := by
  refine zk_M.intro (by decide) (lv := [some (.ref (zk_ad X 30)), none, none, none, none, none, none, none, none]) rfl rfl (fun E hC hR => ?_)
  obtain ⟨k1, k2, k3, k4, k5, k6, k7, k8, k9, k10⟩ := hw
  have hseg : ps * 4 * ln ≤ 80 := by
    have : ps * 4 * ln ≤ 20 * 4 := Nat.mul_le_mul (by omega) (by omega)
    omega
  refine zk_aload_n (pc' := 1) hC rfl ⟨dX1_doSegment_0, rfl⟩ ?_
  first | refine zk_getiN (pc' := 4) hC fl_X1_38 (by first | decide | assumption | omega) (by first | rfl | assumption) rfl (by first | assumption | (rw [zk_u_s]; rfl) | (rw [hI]; rfl)) ⟨dX1_doSegment_1, rfl⟩ ?_ | refine zk_geti (pc' := 4) hC fl_X1_38 (by first | decide | assumption | omega) (by first | rfl | assumption) rfl ⟨dX1_doSegment_1, rfl⟩ ?_
  refine zk_iconst (pc' := 5) (x := nI 1) hC ⟨dX1_doSegment_4, rfl⟩ zc_iconst_1 ?_
  refine zk_icmp_ltN (pc' := 8) hC ⟨dX1_doSegment_5, rfl⟩ 19 (by decide) (by omega) (by omega) (fun q0 => ?_) (fun q0 => ?_)
  · omega
  · refine zk_aload_n (pc' := 9) hC rfl ⟨dX1_doSegment_8, rfl⟩ ?_
    first | refine zk_getiN (pc' := 12) hC fl_X1_53 (by first | decide | assumption | omega) (by first | rfl | assumption) rfl (by first | assumption | (rw [zk_u_s]; rfl) | (rw [hI]; rfl)) ⟨dX1_doSegment_9, rfl⟩ ?_ | refine zk_geti (pc' := 12) hC fl_X1_53 (by first | decide | assumption | omega) (by first | rfl | assumption) rfl ⟨dX1_doSegment_9, rfl⟩ ?_
    refine zk_aload_n (pc' := 13) hC rfl ⟨dX1_doSegment_12, rfl⟩ ?_
    refine zk_callV1 (pc' := 16) hC ml_X1_80 mi_X1_segments (c_X1_segments X I J hI) (by decide) (by first | decide | assumption | omega) (by first | rfl | assumption) rfl rfl rfl (Nat.le_of_ble_eq_true rfl) ⟨dX1_doSegment_13, rfl⟩ ?_
    refine zk_icmp_ltN (pc' := 19) hC ⟨dX1_doSegment_16, rfl⟩ 20 (by decide) (by omega) (by omega) (fun q1 => ?_) (fun q1 => ?_)
    · have hla : dn % ln < ln := Nat.mod_lt _ (by omega)
      have hsl : dn / ln % 4 < 4 := Nat.mod_lt _ (by omega)
      have hpa : dn / ln / 4 ≤ 4 := by
        have h1 : dn < ln * (ps * 4) := by rw [Nat.mul_comm]; exact hdn
        have h2 : dn / ln < ps * 4 := Nat.div_lt_of_lt_mul h1
        omega
      have hdl : dn / ln ≤ 80 := Nat.le_trans (Nat.div_le_self _ _) (by omega)
      refine zk_eqI (I' := zk_u I 30 (fl_g g0 kd ln ps tg lb sb dn pa0 sl0 la0)) (by rw [← hI, zk_u_self]) ?_
      refine zk_aload_n (pc' := 21) hC rfl ⟨dX1_doSegment_20, rfl⟩ ?_
      refine zk_aload_n (pc' := 22) hC rfl ⟨dX1_doSegment_21, rfl⟩ ?_
      first | refine zk_getiN (pc' := 25) hC fl_X1_53 (by first | decide | assumption | omega) (by first | rfl | assumption) rfl (by first | assumption | (rw [zk_u_s]; rfl) | (rw [hI]; rfl)) ⟨dX1_doSegment_22, rfl⟩ ?_ | refine zk_geti (pc' := 25) hC fl_X1_53 (by first | decide | assumption | omega) (by first | rfl | assumption) rfl ⟨dX1_doSegment_22, rfl⟩ ?_
      refine zk_aload_n (pc' := 26) hC rfl ⟨dX1_doSegment_25, rfl⟩ ?_
      first | refine zk_getiN (pc' := 29) hC fl_X1_38 (by first | decide | assumption | omega) (by first | rfl | assumption) rfl (by first | assumption | (rw [zk_u_s]; rfl) | (rw [hI]; rfl)) ⟨dX1_doSegment_26, rfl⟩ ?_ | refine zk_geti (pc' := 29) hC fl_X1_38 (by first | decide | assumption | omega) (by first | rfl | assumption) rfl ⟨dX1_doSegment_26, rfl⟩ ?_
      first | refine zk_iremN (pc' := 30) hC ⟨dX1_doSegment_29, rfl⟩ (by omega) (by omega) (by omega) ?_ | refine zk_irem (pc' := 30) hC ⟨dX1_doSegment_29, rfl⟩ (by first | assumption | decide) ?_
      refine zk_puti (pc' := 33) hC fl_X1_83 fp_X1_13 (by first | decide | assumption | omega) (by first | rfl | assumption) rfl rfl rfl ⟨dX1_doSegment_30, rfl⟩ ?_
      rw [zk_u_s, zk_u_u, fl_p13]
      refine zk_aload_n (pc' := 34) hC rfl ⟨dX1_doSegment_33, rfl⟩ ?_
      refine zk_aload_n (pc' := 35) hC rfl ⟨dX1_doSegment_34, rfl⟩ ?_
      first | refine zk_getiN (pc' := 38) hC fl_X1_53 (by first | decide | assumption | omega) (by first | rfl | assumption) rfl (by first | assumption | (rw [zk_u_s]; rfl) | (rw [hI]; rfl)) ⟨dX1_doSegment_35, rfl⟩ ?_ | refine zk_geti (pc' := 38) hC fl_X1_53 (by first | decide | assumption | omega) (by first | rfl | assumption) rfl ⟨dX1_doSegment_35, rfl⟩ ?_
      refine zk_aload_n (pc' := 39) hC rfl ⟨dX1_doSegment_38, rfl⟩ ?_
      first | refine zk_getiN (pc' := 42) hC fl_X1_38 (by first | decide | assumption | omega) (by first | rfl | assumption) rfl (by first | assumption | (rw [zk_u_s]; rfl) | (rw [hI]; rfl)) ⟨dX1_doSegment_39, rfl⟩ ?_ | refine zk_geti (pc' := 42) hC fl_X1_38 (by first | decide | assumption | omega) (by first | rfl | assumption) rfl ⟨dX1_doSegment_39, rfl⟩ ?_
      first | refine zk_idivN (pc' := 43) hC ⟨dX1_doSegment_42, rfl⟩ (by omega) (by omega) (by omega) ?_ | refine zk_idiv (pc' := 43) hC ⟨dX1_doSegment_42, rfl⟩ (by first | assumption | decide) ?_
      refine zk_iconst (pc' := 44) (x := nI 4) hC ⟨dX1_doSegment_43, rfl⟩ zc_iconst_4 ?_
      first | refine zk_iremN (pc' := 45) hC ⟨dX1_doSegment_44, rfl⟩ (by omega) (by omega) (by omega) ?_ | refine zk_irem (pc' := 45) hC ⟨dX1_doSegment_44, rfl⟩ (by first | assumption | decide) ?_
      refine zk_puti (pc' := 48) hC fl_X1_86 fp_X1_12 (by first | decide | assumption | omega) (by first | rfl | assumption) rfl rfl rfl ⟨dX1_doSegment_45, rfl⟩ ?_
      rw [zk_u_s, zk_u_u, fl_p12]
      refine zk_aload_n (pc' := 49) hC rfl ⟨dX1_doSegment_48, rfl⟩ ?_
      refine zk_aload_n (pc' := 50) hC rfl ⟨dX1_doSegment_49, rfl⟩ ?_
      first | refine zk_getiN (pc' := 53) hC fl_X1_53 (by first | decide | assumption | omega) (by first | rfl | assumption) rfl (by first | assumption | (rw [zk_u_s]; rfl) | (rw [hI]; rfl)) ⟨dX1_doSegment_50, rfl⟩ ?_ | refine zk_geti (pc' := 53) hC fl_X1_53 (by first | decide | assumption | omega) (by first | rfl | assumption) rfl ⟨dX1_doSegment_50, rfl⟩ ?_
      refine zk_aload_n (pc' := 54) hC rfl ⟨dX1_doSegment_53, rfl⟩ ?_
      first | refine zk_getiN (pc' := 57) hC fl_X1_38 (by first | decide | assumption | omega) (by first | rfl | assumption) rfl (by first | assumption | (rw [zk_u_s]; rfl) | (rw [hI]; rfl)) ⟨dX1_doSegment_54, rfl⟩ ?_ | refine zk_geti (pc' := 57) hC fl_X1_38 (by first | decide | assumption | omega) (by first | rfl | assumption) rfl ⟨dX1_doSegment_54, rfl⟩ ?_
      first | refine zk_idivN (pc' := 58) hC ⟨dX1_doSegment_57, rfl⟩ (by omega) (by omega) (by omega) ?_ | refine zk_idiv (pc' := 58) hC ⟨dX1_doSegment_57, rfl⟩ (by first | assumption | decide) ?_
      refine zk_iconst (pc' := 59) (x := nI 4) hC ⟨dX1_doSegment_58, rfl⟩ zc_iconst_4 ?_
      first | refine zk_idivN (pc' := 60) hC ⟨dX1_doSegment_59, rfl⟩ (by omega) (by omega) (by omega) ?_ | refine zk_idiv (pc' := 60) hC ⟨dX1_doSegment_59, rfl⟩ (by first | assumption | decide) ?_
      refine zk_puti (pc' := 63) hC fl_X1_89 fp_X1_11 (by first | decide | assumption | omega) (by first | rfl | assumption) rfl rfl rfl ⟨dX1_doSegment_60, rfl⟩ ?_
      rw [zk_u_s, zk_u_u, fl_p11]
      generalize dn % ln = la at hR hla ⊢
      generalize dn / ln % 4 = sl at hR hsl ⊢
      generalize dn / ln / 4 = pa at hR hpa ⊢
      have hIx : zk_u I 30 (fl_g g0 kd ln ps tg lb sb dn pa sl la) 30 = (fl_g g0 kd ln ps tg lb sb dn pa sl la) := zk_u_s
      have hml : la * lb + lb ≤ ln * lb := by have := Nat.mul_le_mul_right lb (show la + 1 ≤ ln from hla); rwa [Nat.add_mul, Nat.one_mul] at this
      have hsb : sl * sb ≤ 3 * sb := Nat.mul_le_mul_right sb (by omega)
      refine zk_aload_n (pc' := 64) hC rfl ⟨dX1_doSegment_63, rfl⟩ ?_
      refine zk_callV1 (pc' := 67) hC ml_X1_92 mi_X1_goesByAddress (c_X1_goesByAddress X _ J hIx k1 (by omega) (by omega)) (by decide) (by first | decide | assumption | omega) (by first | rfl | assumption) rfl rfl rfl (Nat.le_of_ble_eq_true rfl) ⟨dX1_doSegment_64, rfl⟩ ?_
      change zk_A 0 X E 67 _ [.int (nI (fl_ba kd pa sl))] _ J
      have hba : fl_ba kd pa sl < 2 := by unfold fl_ba; split <;> omega
      refine zk_is1 (pc' := 68) hC ⟨dX1_doSegment_67, rfl⟩ rfl ?_
      suffices h116 : zk_A 0 X E 116 [some (.ref (zk_ad X 30)), some (.int (nI (fl_ba kd pa sl))), none, none, none, none, none, none, none] [] (zk_u I 30 (fl_g g0 kd ln ps tg lb sb dn pa sl la)) (fl_adr J kd ps (ln * lb) pa sl la) by
        refine zk_iload_n (pc' := 69) hC rfl ⟨dX1_doSegment_68, rfl⟩ ?_
        refine zk_if_eqN (pc' := 72) hC ⟨dX1_doSegment_69, rfl⟩ 116 (by decide) (by omega) (fun q2 => ?_) (fun q2 => ?_)
        · rw [fl_adr, if_pos q2] at h116
          exact h116
        · rw [fl_adr, if_neg q2] at h116
          refine zk_aload_n (pc' := 73) hC rfl ⟨dX1_doSegment_72, rfl⟩ ?_
          refine zk_callV0 (pc' := 76) hC ml_X1_96 mi_X1_openAddress (c_X1_openAddress X _ J hIx k1 (by omega) (by omega) (by omega) k5 k10) (by decide) (by first | decide | assumption | omega) (by first | rfl | assumption) rfl rfl rfl (Nat.le_of_ble_eq_true rfl) ⟨dX1_doSegment_73, rfl⟩ ?_
          refine zk_aload_n (pc' := 77) hC rfl ⟨dX1_doSegment_76, rfl⟩ ?_
          refine zk_getr (pc' := 80) hC fl_X1_26 (by first | decide | assumption | omega) (by first | rfl | assumption) rfl ⟨dX1_doSegment_77, rfl⟩ ?_
          refine zk_aload_n (pc' := 81) hC rfl ⟨dX1_doSegment_80, rfl⟩ ?_
          refine zk_getr (pc' := 84) hC fl_X1_16 (by first | decide | assumption | omega) (by first | rfl | assumption) rfl ⟨dX1_doSegment_81, rfl⟩ ?_
          refine zk_aload_n (pc' := 85) hC rfl ⟨dX1_doSegment_84, rfl⟩ ?_
          refine zk_getr (pc' := 88) hC fl_X1_20 (by first | decide | assumption | omega) (by first | rfl | assumption) rfl ⟨dX1_doSegment_85, rfl⟩ ?_
          refine zk_aload_n (pc' := 89) hC rfl ⟨dX1_doSegment_88, rfl⟩ ?_
          refine zk_getr (pc' := 92) hC fl_X1_20 (by first | decide | assumption | omega) (by first | rfl | assumption) rfl ⟨dX1_doSegment_89, rfl⟩ ?_
          refine zk_iconst (pc' := 93) (x := nI 0) hC ⟨dX1_doSegment_92, rfl⟩ zc_iconst_0 ?_
          refine zk_callV0 (pc' := 96) hC ml_X1_99 mi_X3_join (c_X3_join X _ _ fl_jok32 fl_jok33 fl_jok33 (b := 0) (by decide)) (by decide) (by first | decide | assumption | omega) (by first | rfl | assumption) rfl rfl rfl (Nat.le_of_ble_eq_true rfl) ⟨dX1_doSegment_93, rfl⟩ ?_
          refine zk_aload_n (pc' := 97) hC rfl ⟨dX1_doSegment_96, rfl⟩ ?_
          refine zk_getr (pc' := 100) hC fl_X1_26 (by first | decide | assumption | omega) (by first | rfl | assumption) rfl ⟨dX1_doSegment_97, rfl⟩ ?_
          refine zk_aload_n (pc' := 101) hC rfl ⟨dX1_doSegment_100, rfl⟩ ?_
          refine zk_getr (pc' := 104) hC fl_X1_16 (by first | decide | assumption | omega) (by first | rfl | assumption) rfl ⟨dX1_doSegment_101, rfl⟩ ?_
          refine zk_aload_n (pc' := 105) hC rfl ⟨dX1_doSegment_104, rfl⟩ ?_
          refine zk_getr (pc' := 108) hC fl_X1_20 (by first | decide | assumption | omega) (by first | rfl | assumption) rfl ⟨dX1_doSegment_105, rfl⟩ ?_
          refine zk_aload_n (pc' := 109) hC rfl ⟨dX1_doSegment_108, rfl⟩ ?_
          refine zk_getr (pc' := 112) hC fl_X1_20 (by first | decide | assumption | omega) (by first | rfl | assumption) rfl ⟨dX1_doSegment_109, rfl⟩ ?_
          refine zk_iconst (pc' := 113) (x := nI 0) hC ⟨dX1_doSegment_112, rfl⟩ zc_iconst_0 ?_
          refine zk_callV0 (pc' := 116) hC ml_X1_99 mi_X3_join (c_X3_join X _ _ fl_jok32 fl_jok33 fl_jok33 (b := 0) (by decide)) (by decide) (by first | decide | assumption | omega) (by first | rfl | assumption) rfl rfl rfl (Nat.le_of_ble_eq_true rfl) ⟨dX1_doSegment_113, rfl⟩ ?_
          exact h116
      unfold fl_seg at hR
      generalize fl_adr J kd ps (ln * lb) pa sl la = Ja at hR ⊢
      refine zk_aload_n (pc' := 117) hC rfl ⟨dX1_doSegment_116, rfl⟩ ?_
      first | refine zk_getiN (pc' := 120) hC fl_X1_83 (by first | decide | assumption | omega) (by first | rfl | assumption) rfl (by first | assumption | (rw [zk_u_s]; rfl) | (rw [hI]; rfl)) ⟨dX1_doSegment_117, rfl⟩ ?_ | refine zk_geti (pc' := 120) hC fl_X1_83 (by first | decide | assumption | omega) (by first | rfl | assumption) rfl ⟨dX1_doSegment_117, rfl⟩ ?_
      refine zk_aload_n (pc' := 121) hC rfl ⟨dX1_doSegment_120, rfl⟩ ?_
      first | refine zk_getiN (pc' := 124) hC fl_X1_50 (by first | decide | assumption | omega) (by first | rfl | assumption) rfl (by first | assumption | (rw [zk_u_s]; rfl) | (rw [hI]; rfl)) ⟨dX1_doSegment_121, rfl⟩ ?_ | refine zk_geti (pc' := 124) hC fl_X1_50 (by first | decide | assumption | omega) (by first | rfl | assumption) rfl ⟨dX1_doSegment_121, rfl⟩ ?_
      first | refine zk_imulN (pc' := 125) hC ⟨dX1_doSegment_124, rfl⟩ ?_ | refine zk_imul (pc' := 125) hC ⟨dX1_doSegment_124, rfl⟩ ?_
      refine zk_is2 (pc' := 126) hC ⟨dX1_doSegment_125, rfl⟩ rfl ?_
      refine zk_aload_n (pc' := 127) hC rfl ⟨dX1_doSegment_126, rfl⟩ ?_
      refine zk_callV1 (pc' := 130) hC ml_X1_103 mi_X1_isFirstSlice (c_X1_isFirstSlice X _ Ja hIx (by omega) (by omega)) (by decide) (by first | decide | assumption | omega) (by first | rfl | assumption) rfl rfl rfl (Nat.le_of_ble_eq_true rfl) ⟨dX1_doSegment_127, rfl⟩ ?_
      suffices h138 : zk_A 0 X E 138 [some (.ref (zk_ad X 30)), some (.int (nI (fl_ba kd pa sl))), some (.int (nI (la * lb))), none, none, none, none, none, none] [.int (nI (fl_i0 pa sl))] (zk_u I 30 (fl_g g0 kd ln ps tg lb sb dn pa sl la)) Ja by
        by_cases hfs : pa = 0 ∧ sl = 0
        · skip
          rw [if_pos hfs]
          rw [fl_i0, if_pos hfs] at h138
          refine zk_if_eqN (pc' := 133) hC ⟨dX1_doSegment_130, rfl⟩ 137 (by decide) (by omega) (fun q2 => ?_) (fun q2 => ?_)
          · omega
          · refine zk_iconst (pc' := 134) (x := nI 2) hC ⟨dX1_doSegment_133, rfl⟩ zc_iconst_2 ?_
            refine zk_goto (pc' := 137) hC ⟨dX1_doSegment_134, rfl⟩ 138 (by decide) ?_
            exact h138
        · skip
          rw [if_neg hfs]
          rw [fl_i0, if_neg hfs] at h138
          refine zk_if_eqN (pc' := 133) hC ⟨dX1_doSegment_130, rfl⟩ 137 (by decide) (by omega) (fun q2 => ?_) (fun q2 => ?_)
          · refine zk_iconst (pc' := 138) (x := nI 0) hC ⟨dX1_doSegment_137, rfl⟩ zc_iconst_0 ?_
            exact h138
          · omega
      have hi0 : fl_i0 pa sl ≤ 2 ∧ (pa = 0 ∧ sl = 0 → 2 ≤ fl_i0 pa sl) := by unfold fl_i0; split <;> omega
      refine zk_is3 (pc' := 139) hC ⟨dX1_doSegment_138, rfl⟩ rfl ?_
      refine zk_up (P := fun t => zk_A 0 X E 139 [some (.ref (zk_ad X 30)), some (.int (nI (fl_ba kd pa sl))), some (.int (nI (la * lb))), some (.int (nI (fl_i0 pa sl + t))), none, none, none, none, none] [] (zk_u I 30 (fl_g g0 kd ln ps tg lb sb dn pa sl la)) (fl_loop Ja kd ln lb sb pa sl la t)) (sb - fl_i0 pa sl) ?_ (fun t ht ih => ?_)
      · skip
        refine zk_iload_n (pc' := 140) hC rfl ⟨dX1_doSegment_139, rfl⟩ ?_
        refine zk_aload_n (pc' := 141) hC rfl ⟨dX1_doSegment_140, rfl⟩ ?_
        first | refine zk_getiN (pc' := 144) hC fl_X1_47 (by first | decide | assumption | omega) (by first | rfl | assumption) rfl (by first | assumption | (rw [zk_u_s]; rfl) | (rw [hI]; rfl)) ⟨dX1_doSegment_141, rfl⟩ ?_ | refine zk_geti (pc' := 144) hC fl_X1_47 (by first | decide | assumption | omega) (by first | rfl | assumption) rfl ⟨dX1_doSegment_141, rfl⟩ ?_
        refine zk_icmp_geN (pc' := 147) hC ⟨dX1_doSegment_144, rfl⟩ 257 (by decide) (by omega) (by omega) (fun q2 => ?_) (fun q2 => ?_)
        · refine zk_aload_n (pc' := 258) hC rfl ⟨dX1_doSegment_257, rfl⟩ ?_
          refine zk_dup (pc' := 259) hC ⟨dX1_doSegment_258, rfl⟩ rfl ?_
          first | refine zk_getiN (pc' := 262) hC fl_X1_53 (by first | decide | assumption | omega) (by first | rfl | assumption) rfl (by first | assumption | (rw [zk_u_s]; rfl) | (rw [hI]; rfl)) ⟨dX1_doSegment_259, rfl⟩ ?_ | refine zk_geti (pc' := 262) hC fl_X1_53 (by first | decide | assumption | omega) (by first | rfl | assumption) rfl ⟨dX1_doSegment_259, rfl⟩ ?_
          refine zk_iconst (pc' := 263) (x := nI 1) hC ⟨dX1_doSegment_262, rfl⟩ zc_iconst_1 ?_
          first | refine zk_iaddN (pc' := 264) hC ⟨dX1_doSegment_263, rfl⟩ ?_ | refine zk_iadd (pc' := 264) hC ⟨dX1_doSegment_263, rfl⟩ ?_
          refine zk_puti (pc' := 267) hC fl_X1_53 fp_X1_10 (by first | decide | assumption | omega) (by first | rfl | assumption) rfl rfl rfl ⟨dX1_doSegment_264, rfl⟩ ?_
          rw [zk_u_s, zk_u_u, fl_p10]
          exact zk_vret (pc' := 268) hC hR rfl rfl rfl ⟨dX1_doSegment_267, rfl⟩
        · omega
      · skip
        revert ih
        show zk_A 0 X E 139 [some (.ref (zk_ad X 30)), some (.int (nI (fl_ba kd pa sl))), some (.int (nI (la * lb))), some (.int (nI (fl_i0 pa sl + t + 1))), none, none, none, none, none] [] (zk_u I 30 (fl_g g0 kd ln ps tg lb sb dn pa sl la)) (fl_step (fl_loop Ja kd ln lb sb pa sl la t) kd ln lb sb pa sl la (fl_i0 pa sl + t)) → _
        generalize fl_loop Ja kd ln lb sb pa sl la t = Jt
        have hil : fl_i0 pa sl + t < sb := by omega
        have hi2 : pa = 0 ∧ sl = 0 → 2 ≤ fl_i0 pa sl + t := fun e => by have := hi0.2 e; omega
        generalize fl_i0 pa sl + t = i at hil hi2 ⊢
        intro ih
        have hok : fl_ok ln lb sb pa sl la i := ⟨k2, k3, k7, k8, k9, hla, hsl, hpa, hil, hi2, k10⟩
        refine zk_iload_n (pc' := 140) hC rfl ⟨dX1_doSegment_139, rfl⟩ ?_
        refine zk_aload_n (pc' := 141) hC rfl ⟨dX1_doSegment_140, rfl⟩ ?_
        first | refine zk_getiN (pc' := 144) hC fl_X1_47 (by first | decide | assumption | omega) (by first | rfl | assumption) rfl (by first | assumption | (rw [zk_u_s]; rfl) | (rw [hI]; rfl)) ⟨dX1_doSegment_141, rfl⟩ ?_ | refine zk_geti (pc' := 144) hC fl_X1_47 (by first | decide | assumption | omega) (by first | rfl | assumption) rfl ⟨dX1_doSegment_141, rfl⟩ ?_
        refine zk_icmp_geN (pc' := 147) hC ⟨dX1_doSegment_144, rfl⟩ 257 (by decide) (by omega) (by omega) (fun q2 => ?_) (fun q2 => ?_)
        · omega
        · refine zk_aload_n (pc' := 148) hC rfl ⟨dX1_doSegment_147, rfl⟩ ?_
          first | refine zk_getiN (pc' := 151) hC fl_X1_86 (by first | decide | assumption | omega) (by first | rfl | assumption) rfl (by first | assumption | (rw [zk_u_s]; rfl) | (rw [hI]; rfl)) ⟨dX1_doSegment_148, rfl⟩ ?_ | refine zk_geti (pc' := 151) hC fl_X1_86 (by first | decide | assumption | omega) (by first | rfl | assumption) rfl ⟨dX1_doSegment_148, rfl⟩ ?_
          refine zk_aload_n (pc' := 152) hC rfl ⟨dX1_doSegment_151, rfl⟩ ?_
          first | refine zk_getiN (pc' := 155) hC fl_X1_47 (by first | decide | assumption | omega) (by first | rfl | assumption) rfl (by first | assumption | (rw [zk_u_s]; rfl) | (rw [hI]; rfl)) ⟨dX1_doSegment_152, rfl⟩ ?_ | refine zk_geti (pc' := 155) hC fl_X1_47 (by first | decide | assumption | omega) (by first | rfl | assumption) rfl ⟨dX1_doSegment_152, rfl⟩ ?_
          first | refine zk_imulN (pc' := 156) hC ⟨dX1_doSegment_155, rfl⟩ ?_ | refine zk_imul (pc' := 156) hC ⟨dX1_doSegment_155, rfl⟩ ?_
          refine zk_iload_n (pc' := 157) hC rfl ⟨dX1_doSegment_156, rfl⟩ ?_
          first | refine zk_iaddN (pc' := 158) hC ⟨dX1_doSegment_157, rfl⟩ ?_ | refine zk_iadd (pc' := 158) hC ⟨dX1_doSegment_157, rfl⟩ ?_
          refine zk_is4 (pc' := 160) hC ⟨dX1_doSegment_158, rfl⟩ rfl ?_
          generalize hj : sl * sb + i = j
          have hjl : j < lb := by omega
          have hbfl : fl_bf lb la j < 128 := by unfold fl_bf; split <;> omega
          obtain ⟨hr1, hr2⟩ := fl_row hbfl
          suffices h182 : zk_A 0 X E 182 [some (.ref (zk_ad X 30)), some (.int (nI (fl_ba kd pa sl))), some (.int (nI (la * lb))), some (.int (nI i)), some (.int (nI j)), none, none, none, none] [.ref (zk_ad X (38 + fl_bf lb la j))] (zk_u I 30 (fl_g g0 kd ln ps tg lb sb dn pa sl la)) Jt by
            refine zk_aload_n (pc' := 161) hC rfl ⟨dX1_doSegment_160, rfl⟩ ?_
            refine zk_iload_n (pc' := 162) hC rfl ⟨dX1_doSegment_161, rfl⟩ ?_
            refine zk_iload (pc' := 164) hC rfl ⟨dX1_doSegment_162, rfl⟩ ?_
            refine zk_if_neN (pc' := 167) hC ⟨dX1_doSegment_164, rfl⟩ 174 (by decide) (by omega) (fun q3 => ?_) (fun q3 => ?_)
            · refine zk_iload (pc' := 176) hC rfl ⟨dX1_doSegment_174, rfl⟩ ?_
              first | refine zk_iaddN (pc' := 177) hC ⟨dX1_doSegment_176, rfl⟩ ?_ | refine zk_iadd (pc' := 177) hC ⟨dX1_doSegment_176, rfl⟩ ?_
              refine zk_iconst (pc' := 178) (x := nI 1) hC ⟨dX1_doSegment_177, rfl⟩ zc_iconst_1 ?_
              first | refine zk_isubN (pc' := 179) hC ⟨dX1_doSegment_178, rfl⟩ (by omega) ?_ | refine zk_isub (pc' := 179) hC ⟨dX1_doSegment_178, rfl⟩ ?_
              have hbf : fl_bf lb la j = la * lb + j - 1 := by unfold fl_bf; rw [if_neg q3]
              refine zk_callV1 (pc' := 182) hC ml_X1_68 mi_X1_blockOf (c_X1_blockOf X _ Jt (b := la * lb + j - 1) (by omega)) (by decide) (by first | decide | assumption | omega) (by first | rfl | assumption) rfl rfl rfl (Nat.le_of_ble_eq_true rfl) ⟨dX1_doSegment_179, rfl⟩ ?_
              rw [← hbf]
              exact h182
            · refine zk_aload_n (pc' := 168) hC rfl ⟨dX1_doSegment_167, rfl⟩ ?_
              first | refine zk_getiN (pc' := 171) hC fl_X1_50 (by first | decide | assumption | omega) (by first | rfl | assumption) rfl (by first | assumption | (rw [zk_u_s]; rfl) | (rw [hI]; rfl)) ⟨dX1_doSegment_168, rfl⟩ ?_ | refine zk_geti (pc' := 171) hC fl_X1_50 (by first | decide | assumption | omega) (by first | rfl | assumption) rfl ⟨dX1_doSegment_168, rfl⟩ ?_
              refine zk_goto (pc' := 174) hC ⟨dX1_doSegment_171, rfl⟩ 176 (by decide) ?_
              first | refine zk_iaddN (pc' := 177) hC ⟨dX1_doSegment_176, rfl⟩ ?_ | refine zk_iadd (pc' := 177) hC ⟨dX1_doSegment_176, rfl⟩ ?_
              refine zk_iconst (pc' := 178) (x := nI 1) hC ⟨dX1_doSegment_177, rfl⟩ zc_iconst_1 ?_
              first | refine zk_isubN (pc' := 179) hC ⟨dX1_doSegment_178, rfl⟩ (by omega) ?_ | refine zk_isub (pc' := 179) hC ⟨dX1_doSegment_178, rfl⟩ ?_
              have hbf : fl_bf lb la j = la * lb + lb - 1 := by unfold fl_bf; rw [if_pos q3]
              refine zk_callV1 (pc' := 182) hC ml_X1_68 mi_X1_blockOf (c_X1_blockOf X _ Jt (b := la * lb + lb - 1) (by omega)) (by decide) (by first | decide | assumption | omega) (by first | rfl | assumption) rfl rfl rfl (Nat.le_of_ble_eq_true rfl) ⟨dX1_doSegment_179, rfl⟩ ?_
              rw [← hbf]
              exact h182
          refine zk_as5 (pc' := 184) hC ⟨dX1_doSegment_182, rfl⟩ rfl ?_
          suffices h205 : zk_A 0 X E 205 [some (.ref (zk_ad X 30)), some (.int (nI (fl_ba kd pa sl))), some (.int (nI (la * lb))), some (.int (nI i)), some (.int (nI j)), some (.ref (zk_ad X (38 + fl_bf lb la j))), none, none, none] [.long (fl_num Jt kd lb sb pa sl la i)] (zk_u I 30 (fl_g g0 kd ln ps tg lb sb dn pa sl la)) Jt by
            refine zk_iload_n (pc' := 185) hC rfl ⟨dX1_doSegment_184, rfl⟩ ?_
            refine zk_if_eqN (pc' := 188) hC ⟨dX1_doSegment_185, rfl⟩ 201 (by decide) (by omega) (fun q3 => ?_) (fun q3 => ?_)
            · rw [fl_num, if_pos q3, hj] at h205
              refine zk_aload (pc' := 203) hC rfl ⟨dX1_doSegment_201, rfl⟩ ?_
              refine zk_iconst (pc' := 204) (x := nI 0) hC ⟨dX1_doSegment_203, rfl⟩ zc_iconst_0 ?_
              first | refine zk_laldU (pc' := 205) hC (by first | decide | assumption | omega) (by first | rfl | assumption) (by omega) (by first | decide | omega) ⟨dX1_doSegment_204, rfl⟩ ?_ | refine zk_laldN (pc' := 205) hC (by first | decide | assumption | omega) (by first | rfl | assumption) (by omega) (by first | decide | omega) ⟨dX1_doSegment_204, rfl⟩ ?_ | refine zk_t1N (pc' := 205) hC (by omega) ⟨dX1_doSegment_204, rfl⟩ ?_
              exact h205
            · rw [fl_num, if_neg q3] at h205
              refine zk_aload_n (pc' := 189) hC rfl ⟨dX1_doSegment_188, rfl⟩ ?_
              refine zk_getr (pc' := 192) hC fl_X1_20 (by first | decide | assumption | omega) (by first | rfl | assumption) rfl ⟨dX1_doSegment_189, rfl⟩ ?_
              refine zk_iload_n (pc' := 193) hC rfl ⟨dX1_doSegment_192, rfl⟩ ?_
              refine zk_sipush (pc' := 196) (x := nI 128) hC ⟨dX1_doSegment_193, rfl⟩ zc_sipush_128 ?_
              first | refine zk_iremN (pc' := 197) hC ⟨dX1_doSegment_196, rfl⟩ (by omega) (by omega) (by omega) ?_ | refine zk_irem (pc' := 197) hC ⟨dX1_doSegment_196, rfl⟩ (by first | assumption | decide) ?_
              first | refine zk_laldU (pc' := 198) hC (by first | decide | assumption | omega) (by first | rfl | assumption) (by omega) (by first | decide | omega) ⟨dX1_doSegment_197, rfl⟩ ?_ | refine zk_laldN (pc' := 198) hC (by first | decide | assumption | omega) (by first | rfl | assumption) (by omega) (by first | decide | omega) ⟨dX1_doSegment_197, rfl⟩ ?_ | refine zk_t1N (pc' := 198) hC (by omega) ⟨dX1_doSegment_197, rfl⟩ ?_
              refine zk_goto (pc' := 201) hC ⟨dX1_doSegment_198, rfl⟩ 205 (by decide) ?_
              exact h205
          rw [fl_step, hj] at ih
          generalize fl_num Jt kd lb sb pa sl la i = num at ih ⊢
          have hfar := fl_far_lt (fl_nn num) hok
          refine zk_ls6 (pc' := 207) hC ⟨dX1_doSegment_205, rfl⟩ rfl ?_
          refine zk_aload_n (pc' := 208) hC rfl ⟨dX1_doSegment_207, rfl⟩ ?_
          refine zk_aload_n (pc' := 209) hC rfl ⟨dX1_doSegment_208, rfl⟩ ?_
          refine zk_iload_n (pc' := 210) hC rfl ⟨dX1_doSegment_209, rfl⟩ ?_
          refine zk_lload (pc' := 212) hC rfl ⟨dX1_doSegment_210, rfl⟩ ?_
          refine zk_callV1 (pc' := 215) hC ml_X1_106 mi_X1_farBlock (c_X1_farBlock X _ Jt hIx num hok) (by decide) (by first | decide | assumption | omega) (by first | rfl | assumption) rfl rfl rfl (Nat.le_of_ble_eq_true rfl) ⟨dX1_doSegment_212, rfl⟩ ?_
          generalize fl_far ln lb sb pa sl la i (fl_nn num) = fr at ih hfar ⊢
          refine zk_callV1 (pc' := 218) hC ml_X1_68 mi_X1_blockOf (c_X1_blockOf X _ Jt (b := fr) (by omega)) (by decide) (by first | decide | assumption | omega) (by first | rfl | assumption) rfl rfl rfl (Nat.le_of_ble_eq_true rfl) ⟨dX1_doSegment_215, rfl⟩ ?_
          refine zk_as8 (pc' := 220) hC ⟨dX1_doSegment_218, rfl⟩ rfl ?_
          refine zk_aload_n (pc' := 221) hC rfl ⟨dX1_doSegment_220, rfl⟩ ?_
          refine zk_getr (pc' := 224) hC fl_X1_26 (by first | decide | assumption | omega) (by first | rfl | assumption) rfl ⟨dX1_doSegment_221, rfl⟩ ?_
          refine zk_aload (pc' := 226) hC rfl ⟨dX1_doSegment_224, rfl⟩ ?_
          refine zk_aload (pc' := 228) hC rfl ⟨dX1_doSegment_226, rfl⟩ ?_
          refine zk_aload_n (pc' := 229) hC rfl ⟨dX1_doSegment_228, rfl⟩ ?_
          refine zk_iload_n (pc' := 230) hC rfl ⟨dX1_doSegment_229, rfl⟩ ?_
          refine zk_iload (pc' := 232) hC rfl ⟨dX1_doSegment_230, rfl⟩ ?_
          first | refine zk_iaddN (pc' := 233) hC ⟨dX1_doSegment_232, rfl⟩ ?_ | refine zk_iadd (pc' := 233) hC ⟨dX1_doSegment_232, rfl⟩ ?_
          refine zk_callV1 (pc' := 236) hC ml_X1_68 mi_X1_blockOf (c_X1_blockOf X _ Jt (b := la * lb + j) (by omega)) (by decide) (by first | decide | assumption | omega) (by first | rfl | assumption) rfl rfl rfl (Nat.le_of_ble_eq_true rfl) ⟨dX1_doSegment_233, rfl⟩ ?_
          refine zk_aload_n (pc' := 237) hC rfl ⟨dX1_doSegment_236, rfl⟩ ?_
          first | refine zk_getiN (pc' := 240) hC fl_X1_89 (by first | decide | assumption | omega) (by first | rfl | assumption) rfl (by first | assumption | (rw [zk_u_s]; rfl) | (rw [hI]; rfl)) ⟨dX1_doSegment_237, rfl⟩ ?_ | refine zk_geti (pc' := 240) hC fl_X1_89 (by first | decide | assumption | omega) (by first | rfl | assumption) rfl ⟨dX1_doSegment_237, rfl⟩ ?_
          refine zk_if_leN (pc' := 243) hC ⟨dX1_doSegment_240, rfl⟩ 247 (by decide) (by omega) (fun q3 => ?_) (fun q3 => ?_)
          · rw [if_pos q3] at ih
            refine zk_iconst (pc' := 248) (x := nI 0) hC ⟨dX1_doSegment_247, rfl⟩ zc_iconst_0 ?_
            refine zk_callV0 (pc' := 251) hC ml_X1_99 mi_X3_join (c_X3_join X _ Jt (fl_jok hbfl) (fl_jok (b := fr) (by omega)) (fl_jok (b := la * lb + j) (by omega)) (b := 0) (by decide)) (by decide) (by first | decide | assumption | omega) (by first | rfl | assumption) rfl rfl rfl (Nat.le_of_ble_eq_true rfl) ⟨dX1_doSegment_248, rfl⟩ ?_
            refine zk_fg4 ?_
            refine zk_fg5 ?_
            refine zk_fg6 ?_
            refine zk_fg8 ?_
            first | refine zk_in3 (pc' := 254) hC ⟨dX1_doSegment_251, rfl⟩ ?_ | refine zk_iincG (pc' := 254) hC ⟨dX1_doSegment_251, rfl⟩ rfl ?_
            refine zk_goto (pc' := 257) hC ⟨dX1_doSegment_254, rfl⟩ 139 (by decide) ?_
            exact ih
          · rw [if_neg (by omega)] at ih
            refine zk_iconst (pc' := 244) (x := nI 1) hC ⟨dX1_doSegment_243, rfl⟩ zc_iconst_1 ?_
            refine zk_goto (pc' := 247) hC ⟨dX1_doSegment_244, rfl⟩ 248 (by decide) ?_
            refine zk_callV0 (pc' := 251) hC ml_X1_99 mi_X3_join (c_X3_join X _ Jt (fl_jok hbfl) (fl_jok (b := fr) (by omega)) (fl_jok (b := la * lb + j) (by omega)) (b := 1) (by decide)) (by decide) (by first | decide | assumption | omega) (by first | rfl | assumption) rfl rfl rfl (Nat.le_of_ble_eq_true rfl) ⟨dX1_doSegment_248, rfl⟩ ?_
            refine zk_fg4 ?_
            refine zk_fg5 ?_
            refine zk_fg6 ?_
            refine zk_fg8 ?_
            first | refine zk_in3 (pc' := 254) hC ⟨dX1_doSegment_251, rfl⟩ ?_ | refine zk_iincG (pc' := 254) hC ⟨dX1_doSegment_251, rfl⟩ rfl ?_
            refine zk_goto (pc' := 257) hC ⟨dX1_doSegment_254, rfl⟩ 139 (by decide) ?_
            exact ih
    · omega

