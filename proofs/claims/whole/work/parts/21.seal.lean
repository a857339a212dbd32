set_option maxHeartbeats 1000000 in
set_option maxRecDepth 100000 in
theorem c_X4_fill_bad (X : zk_X) (I : zk_I) (J : zk_J) (n : Int32) (hbad : ¬ (¬ n < nI 1 ∧ ¬ nI 100 < n)) : zk_M 0 X yX4_fill cX4_fill 4 ((some .int)) (5, 126) [.ref (zk_ad X 0), .int n] I J (some (.int (-2))) I J := by
  refine zk_M.intro (by decide) (lv := [some (.ref (zk_ad X 0)), some (.int n), none, none]) rfl rfl (fun E hC hR => ?_)
  refine zk_iload_n (pc' := 1) hC rfl ⟨dX4_fill_0, rfl⟩ ?_
  refine zk_iconst (pc' := 2) (x := nI 1) hC ⟨dX4_fill_1, rfl⟩ zc_iconst_1 ?_
  refine zk_icmp_lt (pc' := 5) hC ⟨dX4_fill_2, rfl⟩ 11 (by decide) (fun q1 => ?_) (fun q1 => ?_)
  · refine zk_bipush (pc' := 13) (x := (-2 : Int32)) hC ⟨dX4_fill_11, rfl⟩ zc_bipush_m2 ?_
    exact zk_iret (pc' := 14) hC hR rfl rfl rfl ⟨dX4_fill_13, rfl⟩
  · refine zk_iload_n (pc' := 6) hC rfl ⟨dX4_fill_5, rfl⟩ ?_
    refine zk_bipush (pc' := 8) (x := nI 100) hC ⟨dX4_fill_6, rfl⟩ zc_bipush_100 ?_
    refine zk_icmp_le (pc' := 11) hC ⟨dX4_fill_8, rfl⟩ 14 (by decide) (fun q2 => ?_) (fun q2 => ?_)
    · exact absurd ⟨q1, fun z => absurd q2 (Int32.not_le.mpr z)⟩ hbad
    · refine zk_bipush (pc' := 13) (x := (-2 : Int32)) hC ⟨dX4_fill_11, rfl⟩ zc_bipush_m2 ?_
      exact zk_iret (pc' := 14) hC hR rfl rfl rfl ⟨dX4_fill_13, rfl⟩

set_option maxHeartbeats 1000000 in
set_option maxRecDepth 100000 in
theorem c_X4_fill_ref (X : zk_X) (I : zk_I) (J : zk_J) {g0 : Nat → Int32} {kd ln ps tg lb sb dn pa sl la : Nat} (hI : I 30 = fl_g g0 kd ln ps tg lb sb dn pa sl la) {n : Nat} (hn1 : 1 ≤ n) (hn2 : n ≤ 100) (hln : ln = 0) : zk_M 0 X yX4_fill cX4_fill 4 ((some .int)) (5, 126) [.ref (zk_ad X 0), .int (nI n)] I J (some (.int (-3))) I J := by
  refine zk_M.intro (by decide) (lv := [some (.ref (zk_ad X 0)), some (.int (nI n)), none, none]) rfl rfl (fun E hC hR => ?_)
  refine zk_iload_n (pc' := 1) hC rfl ⟨dX4_fill_0, rfl⟩ ?_
  refine zk_iconst (pc' := 2) (x := nI 1) hC ⟨dX4_fill_1, rfl⟩ zc_iconst_1 ?_
  refine zk_icmp_ltN (pc' := 5) hC ⟨dX4_fill_2, rfl⟩ 11 (by decide) (by omega) (by omega) (fun q1 => ?_) (fun q1 => ?_)
  · omega
  · refine zk_iload_n (pc' := 6) hC rfl ⟨dX4_fill_5, rfl⟩ ?_
    refine zk_bipush (pc' := 8) (x := nI 100) hC ⟨dX4_fill_6, rfl⟩ zc_bipush_100 ?_
    refine zk_icmp_leN (pc' := 11) hC ⟨dX4_fill_8, rfl⟩ 14 (by decide) (by omega) (by omega) (fun q2 => ?_) (fun q2 => ?_)
    · refine zk_aload_n (pc' := 15) hC rfl ⟨dX4_fill_14, rfl⟩ ?_
      refine zk_getr (pc' := 18) hC fl_X4_35 (by first | decide | assumption | omega) (by first | rfl | assumption) rfl ⟨dX4_fill_15, rfl⟩ ?_
      refine zk_callV1 (pc' := 21) hC ml_X4_113 mi_X1_isBegun (c_X1_isBegun X I J hI (by omega)) (by decide) (by first | decide | assumption | omega) (by first | rfl | assumption) rfl rfl rfl (Nat.le_of_ble_eq_true rfl) ⟨dX4_fill_18, rfl⟩ ?_
      rw [if_neg (by omega)]
      refine zk_if_neN (pc' := 24) hC ⟨dX4_fill_21, rfl⟩ 27 (by decide) (by omega) (fun q3 => ?_) (fun q3 => ?_)
      · omega
      · refine zk_bipush (pc' := 26) (x := (-3 : Int32)) hC ⟨dX4_fill_24, rfl⟩ zc_bipush_m3 ?_
        exact zk_iret (pc' := 27) hC hR rfl rfl rfl ⟨dX4_fill_26, rfl⟩
    · omega

/-- so many segments -/
def fs_I (I : zk_I) (g0 : Nat → Int32) (kd ln ps tg lb sb dn : Nat) : Nat → zk_I
  | 0 => I
  | t + 1 => zk_u (fs_I I g0 kd ln ps tg lb sb dn t) 30 (fl_g g0 kd ln ps tg lb sb (dn + t + 1) ((dn + t) / ln / 4) ((dn + t) / ln % 4) ((dn + t) % ln))
def fs_J (J : zk_J) (kd ln ps lb sb dn : Nat) : Nat → zk_J
  | 0 => J
  | t + 1 => fl_seg (fs_J J kd ln ps lb sb dn t) kd ln ps lb sb ((dn + t) / ln / 4) ((dn + t) / ln % 4) ((dn + t) % ln)
theorem fs_I_30 {I : zk_I} {g0 : Nat → Int32} {kd ln ps tg lb sb dn pa sl la : Nat} (hI : I 30 = fl_g g0 kd ln ps tg lb sb dn pa sl la) : ∀ t, ∃ pa sl la, fs_I I g0 kd ln ps tg lb sb dn t 30 = fl_g g0 kd ln ps tg lb sb (dn + t) pa sl la
  | 0 => ⟨_, _, _, hI⟩
  | t + 1 => ⟨_, _, _, zk_u_s⟩
theorem fs_I_o {I : zk_I} {g0 : Nat → Int32} {kd ln ps tg lb sb dn a : Nat} (h : a ≠ 30) : ∀ t, fs_I I g0 kd ln ps tg lb sb dn t a = I a
  | 0 => rfl
  | t + 1 => by rw [fs_I, zk_u_n h]; exact fs_I_o h t

set_option maxHeartbeats 1000000 in
set_option maxRecDepth 100000 in
theorem c_X4_fill_ok (X : zk_X) (I : zk_I) (J : zk_J) {g0 : Nat → Int32} {kd ln ps tg lb sb dn pa sl la : Nat} (hI : I 30 = fl_g g0 kd ln ps tg lb sb dn pa sl la) {n : Nat} (hn1 : 1 ≤ n) (hn2 : n ≤ 100) (hw : fl_is kd ln ps tg lb sb) (hdn : dn ≤ ps * 4 * ln) : zk_M 0 X yX4_fill cX4_fill 4 ((some .int)) (5, 126) [.ref (zk_ad X 0), .int (nI n)] I J (some (.int (nI (min n (ps * 4 * ln - dn))))) (fs_I I g0 kd ln ps tg lb sb dn (min n (ps * 4 * ln - dn))) (fs_J J kd ln ps lb sb dn (min n (ps * 4 * ln - dn))) := by
  refine zk_M.intro (by decide) (lv := [some (.ref (zk_ad X 0)), some (.int (nI n)), none, none]) rfl rfl (fun E hC hR => ?_)
  obtain ⟨k1, k2, k3, k4, k5, k6, k7, k8, k9, k10⟩ := id hw
  have hseg : ps * 4 * ln ≤ 80 := by
    have : ps * 4 * ln ≤ 20 * 4 := Nat.mul_le_mul (by omega) (by omega)
    omega
  refine zk_iload_n (pc' := 1) hC rfl ⟨dX4_fill_0, rfl⟩ ?_
  refine zk_iconst (pc' := 2) (x := nI 1) hC ⟨dX4_fill_1, rfl⟩ zc_iconst_1 ?_
  refine zk_icmp_ltN (pc' := 5) hC ⟨dX4_fill_2, rfl⟩ 11 (by decide) (by omega) (by omega) (fun q1 => ?_) (fun q1 => ?_)
  · omega
  · refine zk_iload_n (pc' := 6) hC rfl ⟨dX4_fill_5, rfl⟩ ?_
    refine zk_bipush (pc' := 8) (x := nI 100) hC ⟨dX4_fill_6, rfl⟩ zc_bipush_100 ?_
    refine zk_icmp_leN (pc' := 11) hC ⟨dX4_fill_8, rfl⟩ 14 (by decide) (by omega) (by omega) (fun q2 => ?_) (fun q2 => ?_)
    · refine zk_aload_n (pc' := 15) hC rfl ⟨dX4_fill_14, rfl⟩ ?_
      refine zk_getr (pc' := 18) hC fl_X4_35 (by first | decide | assumption | omega) (by first | rfl | assumption) rfl ⟨dX4_fill_15, rfl⟩ ?_
      refine zk_callV1 (pc' := 21) hC ml_X4_113 mi_X1_isBegun (c_X1_isBegun X I J hI (by omega)) (by decide) (by first | decide | assumption | omega) (by first | rfl | assumption) rfl rfl rfl (Nat.le_of_ble_eq_true rfl) ⟨dX4_fill_18, rfl⟩ ?_
      rw [if_pos (by omega)]
      refine zk_if_neN (pc' := 24) hC ⟨dX4_fill_21, rfl⟩ 27 (by decide) (by omega) (fun q3 => ?_) (fun q3 => ?_)
      · refine zk_iload_n (pc' := 28) hC rfl ⟨dX4_fill_27, rfl⟩ ?_
        refine zk_aload_n (pc' := 29) hC rfl ⟨dX4_fill_28, rfl⟩ ?_
        refine zk_getr (pc' := 32) hC fl_X4_35 (by first | decide | assumption | omega) (by first | rfl | assumption) rfl ⟨dX4_fill_29, rfl⟩ ?_
        refine zk_callV1 (pc' := 35) hC ml_X4_117 mi_X1_segments (c_X1_segments X I J hI) (by decide) (by first | decide | assumption | omega) (by first | rfl | assumption) rfl rfl rfl (Nat.le_of_ble_eq_true rfl) ⟨dX4_fill_32, rfl⟩ ?_
        refine zk_aload_n (pc' := 36) hC rfl ⟨dX4_fill_35, rfl⟩ ?_
        refine zk_getr (pc' := 39) hC fl_X4_35 (by first | decide | assumption | omega) (by first | rfl | assumption) rfl ⟨dX4_fill_36, rfl⟩ ?_
        first | refine zk_getiN (pc' := 42) hC fl_X4_120 (by first | decide | assumption | omega) (by first | rfl | assumption) rfl (by first | assumption | (rw [zk_u_s]; rfl) | (rw [hI]; rfl)) ⟨dX4_fill_39, rfl⟩ ?_ | refine zk_geti (pc' := 42) hC fl_X4_120 (by first | decide | assumption | omega) (by first | rfl | assumption) rfl ⟨dX4_fill_39, rfl⟩ ?_
        first | refine zk_isubN (pc' := 43) hC ⟨dX4_fill_42, rfl⟩ (by omega) ?_ | refine zk_isub (pc' := 43) hC ⟨dX4_fill_42, rfl⟩ ?_
        first | refine zk_mminN (pc' := 46) hC (by decide) mm_X4_123 mmin_ws (Nat.le_of_ble_eq_true rfl) ⟨dX4_fill_43, rfl⟩ (by omega) (by omega) ?_ | refine zk_mmin (pc' := 46) hC (by decide) mm_X4_123 mmin_ws (Nat.le_of_ble_eq_true rfl) ⟨dX4_fill_43, rfl⟩ ?_
        refine zk_is2 (pc' := 47) hC ⟨dX4_fill_46, rfl⟩ rfl ?_
        refine zk_iconst (pc' := 48) (x := nI 0) hC ⟨dX4_fill_47, rfl⟩ zc_iconst_0 ?_
        refine zk_is3 (pc' := 49) hC ⟨dX4_fill_48, rfl⟩ rfl ?_
        generalize hdo : min n (ps * 4 * ln - dn) = dg at hR ⊢
        refine zk_up (P := fun t => zk_A 0 X E 49 [some (.ref (zk_ad X 0)), some (.int (nI n)), some (.int (nI dg)), some (.int (nI t))] [] (fs_I I g0 kd ln ps tg lb sb dn t) (fs_J J kd ln ps lb sb dn t)) dg ?_ (fun t ht ih => ?_)
        · skip
          refine zk_iload_n (pc' := 50) hC rfl ⟨dX4_fill_49, rfl⟩ ?_
          refine zk_iload_n (pc' := 51) hC rfl ⟨dX4_fill_50, rfl⟩ ?_
          refine zk_icmp_geN (pc' := 54) hC ⟨dX4_fill_51, rfl⟩ 67 (by decide) (by omega) (by omega) (fun q4 => ?_) (fun q4 => ?_)
          · refine zk_iload_n (pc' := 68) hC rfl ⟨dX4_fill_67, rfl⟩ ?_
            exact zk_iret (pc' := 69) hC hR rfl rfl rfl ⟨dX4_fill_68, rfl⟩
          · omega
        · skip
          obtain ⟨pa1, sl1, la1, hI1⟩ := fs_I_30 hI t
          refine zk_iload_n (pc' := 50) hC rfl ⟨dX4_fill_49, rfl⟩ ?_
          refine zk_iload_n (pc' := 51) hC rfl ⟨dX4_fill_50, rfl⟩ ?_
          refine zk_icmp_geN (pc' := 54) hC ⟨dX4_fill_51, rfl⟩ 67 (by decide) (by omega) (by omega) (fun q4 => ?_) (fun q4 => ?_)
          · omega
          · refine zk_aload_n (pc' := 55) hC rfl ⟨dX4_fill_54, rfl⟩ ?_
            refine zk_getr (pc' := 58) hC fl_X4_35 (by first | decide | assumption | omega) (by first | rfl | assumption) rfl ⟨dX4_fill_55, rfl⟩ ?_
            refine zk_callV0 (pc' := 61) hC ml_X4_129 mi_X1_doSegment (c_X1_doSegment X _ (fs_J J kd ln ps lb sb dn t) hI1 hw (by omega)) (by decide) (by first | decide | assumption | omega) (by first | rfl | assumption) rfl rfl rfl (Nat.le_of_ble_eq_true rfl) ⟨dX4_fill_58, rfl⟩ ?_
            first | refine zk_in3 (pc' := 64) hC ⟨dX4_fill_61, rfl⟩ ?_ | refine zk_iincG (pc' := 64) hC ⟨dX4_fill_61, rfl⟩ rfl ?_
            refine zk_goto (pc' := 67) hC ⟨dX4_fill_64, rfl⟩ 49 (by decide) ?_
            exact ih
      · omega
    · omega

set_option maxHeartbeats 1000000 in
set_option maxRecDepth 100000 in
theorem c_X4_tag_bad (X : zk_X) (I : zk_I) (J : zk_J) (t : Int32) (hbad : ¬ is_r t) : zk_M 0 X yX4_tag cX4_tag 2 ((some .int)) (5, 118) [.ref (zk_ad X 0), .int t] I J (some (.int (-2))) I J := by
  refine zk_M.intro (by decide) (lv := [some (.ref (zk_ad X 0)), some (.int t)]) rfl rfl (fun E hC hR => ?_)
  refine zk_iload_n (pc' := 1) hC rfl ⟨dX4_tag_0, rfl⟩ ?_
  refine zk_callS1 (pc' := 4) hC ml_X4_39 ms_X4_isRegister (c_X4_isRegister X I J t) (by decide) rfl rfl (Nat.le_of_ble_eq_true rfl) ⟨dX4_tag_1, rfl⟩ ?_
  rw [if_neg hbad]
  refine zk_if_neN (pc' := 7) hC ⟨dX4_tag_4, rfl⟩ 10 (by decide) (by omega) (fun q => ?_) (fun q => ?_)
  · omega
  · refine zk_bipush (pc' := 9) (x := (-2 : Int32)) hC ⟨dX4_tag_7, rfl⟩ zc_bipush_m2 ?_
    exact zk_iret (pc' := 10) hC hR rfl rfl rfl ⟨dX4_tag_9, rfl⟩

set_option maxHeartbeats 1000000 in
set_option maxRecDepth 100000 in
theorem c_X4_tag_ref (X : zk_X) (I : zk_I) (J : zk_J) {g0 : Nat → Int32} {kd ln ps tg lb sb dn pa sl la : Nat} (hI : I 30 = fl_g g0 kd ln ps tg lb sb dn pa sl la) {t : Nat} (ht : t < 8) (hln : ln ≤ 4) (hsg : ps * 4 * ln ≤ 80) (hrf : ln = 0 ∨ dn < ps * 4 * ln) : zk_M 0 X yX4_tag cX4_tag 2 ((some .int)) (5, 118) [.ref (zk_ad X 0), .int (nI t)] I J (some (.int (-3))) I J := by
  refine zk_M.intro (by decide) (lv := [some (.ref (zk_ad X 0)), some (.int (nI t))]) rfl rfl (fun E hC hR => ?_)
  refine zk_iload_n (pc' := 1) hC rfl ⟨dX4_tag_0, rfl⟩ ?_
  refine zk_callS1 (pc' := 4) hC ml_X4_39 ms_X4_isRegister (c_X4_isRegister X I J (nI t)) (by decide) rfl rfl (Nat.le_of_ble_eq_true rfl) ⟨dX4_tag_1, rfl⟩ ?_
  rw [if_pos (is_r_nI ht)]
  refine zk_if_neN (pc' := 7) hC ⟨dX4_tag_4, rfl⟩ 10 (by decide) (by omega) (fun q => ?_) (fun q => ?_)
  · refine zk_aload_n (pc' := 11) hC rfl ⟨dX4_tag_10, rfl⟩ ?_
    refine zk_getr (pc' := 14) hC fl_X4_35 (by first | decide | assumption | omega) (by first | rfl | assumption) rfl ⟨dX4_tag_11, rfl⟩ ?_
    refine zk_callV1 (pc' := 17) hC ml_X4_113 mi_X1_isBegun (c_X1_isBegun X I J hI (by omega)) (by decide) (by first | decide | assumption | omega) (by first | rfl | assumption) rfl rfl rfl (Nat.le_of_ble_eq_true rfl) ⟨dX4_tag_14, rfl⟩ ?_
    by_cases h0 : 0 < ln
    · skip
      rw [if_pos h0]
      refine zk_if_eqN (pc' := 20) hC ⟨dX4_tag_17, rfl⟩ 37 (by decide) (by omega) (fun q2 => ?_) (fun q2 => ?_)
      · omega
      · refine zk_aload_n (pc' := 21) hC rfl ⟨dX4_tag_20, rfl⟩ ?_
        refine zk_getr (pc' := 24) hC fl_X4_35 (by first | decide | assumption | omega) (by first | rfl | assumption) rfl ⟨dX4_tag_21, rfl⟩ ?_
        first | refine zk_getiN (pc' := 27) hC fl_X4_120 (by first | decide | assumption | omega) (by first | rfl | assumption) rfl (by first | assumption | (rw [zk_u_s]; rfl) | (rw [hI]; rfl)) ⟨dX4_tag_24, rfl⟩ ?_ | refine zk_geti (pc' := 27) hC fl_X4_120 (by first | decide | assumption | omega) (by first | rfl | assumption) rfl ⟨dX4_tag_24, rfl⟩ ?_
        refine zk_aload_n (pc' := 28) hC rfl ⟨dX4_tag_27, rfl⟩ ?_
        refine zk_getr (pc' := 31) hC fl_X4_35 (by first | decide | assumption | omega) (by first | rfl | assumption) rfl ⟨dX4_tag_28, rfl⟩ ?_
        refine zk_callV1 (pc' := 34) hC ml_X4_117 mi_X1_segments (c_X1_segments X I J hI) (by decide) (by first | decide | assumption | omega) (by first | rfl | assumption) rfl rfl rfl (Nat.le_of_ble_eq_true rfl) ⟨dX4_tag_31, rfl⟩ ?_
        refine zk_icmp_geN (pc' := 37) hC ⟨dX4_tag_34, rfl⟩ 40 (by decide) (by omega) (by omega) (fun q3 => ?_) (fun q3 => ?_)
        · omega
        · refine zk_bipush (pc' := 39) (x := (-3 : Int32)) hC ⟨dX4_tag_37, rfl⟩ zc_bipush_m3 ?_
          exact zk_iret (pc' := 40) hC hR rfl rfl rfl ⟨dX4_tag_39, rfl⟩
    · skip
      rw [if_neg h0]
      refine zk_if_eqN (pc' := 20) hC ⟨dX4_tag_17, rfl⟩ 37 (by decide) (by omega) (fun q2 => ?_) (fun q2 => ?_)
      · refine zk_bipush (pc' := 39) (x := (-3 : Int32)) hC ⟨dX4_tag_37, rfl⟩ zc_bipush_m3 ?_
        exact zk_iret (pc' := 40) hC hR rfl rfl rfl ⟨dX4_tag_39, rfl⟩
      · omega
  · omega

def tg_M (I : zk_I) (J : zk_J) (lb ln tg : Nat) : Nat × (Nat → Int32) := fl_pl J lb ln (bz_pn 1028 (0, I 24) (lN tg) 4) 128
theorem tg_M_le {I : zk_I} {J : zk_J} {lb ln tg : Nat} : (tg_M I J lb ln tg).1 ≤ 1028 := fl_pl_le (bz_pn_le (Nat.zero_le _) 4) 128
def tg_T (I : zk_I) (J : zk_J) (lb ln tg : Nat) : hz_T := hz_LL I J (tg_M I J lb ln tg) tg

set_option maxHeartbeats 1000000 in
set_option maxRecDepth 100000 in
theorem c_X4_tag_ok (X : zk_X) (I : zk_I) (J : zk_J) {g0 : Nat → Int32} {kd ln ps tg lb sb dn pa sl la : Nat} (hI : I 30 = fl_g g0 kd ln ps tg lb sb dn pa sl la) {t : Nat} (ht : t < 8) (hln0 : 1 ≤ ln) (hln : ln ≤ 4) (hlb : 1 ≤ lb) (hnb : ln * lb ≤ 128) (htg1 : 1 ≤ tg) (htg : tg ≤ 128) (hsg : ps * 4 * ln ≤ 80) (hdn : dn = ps * 4 * ln) : zk_M 0 X yX4_tag cX4_tag 2 ((some .int)) (5, 118) [.ref (zk_ad X 0), .int (nI t)] I J (some (.int (nI tg))) (rg_give I t (tg_T I J lb ln tg)) (tg_T I J lb ln tg).2.2 := by
  refine zk_M.intro (by decide) (lv := [some (.ref (zk_ad X 0)), some (.int (nI t))]) rfl rfl (fun E hC hR => ?_)
  refine zk_iload_n (pc' := 1) hC rfl ⟨dX4_tag_0, rfl⟩ ?_
  refine zk_callS1 (pc' := 4) hC ml_X4_39 ms_X4_isRegister (c_X4_isRegister X I J (nI t)) (by decide) rfl rfl (Nat.le_of_ble_eq_true rfl) ⟨dX4_tag_1, rfl⟩ ?_
  rw [if_pos (is_r_nI ht)]
  refine zk_if_neN (pc' := 7) hC ⟨dX4_tag_4, rfl⟩ 10 (by decide) (by omega) (fun q => ?_) (fun q => ?_)
  · refine zk_aload_n (pc' := 11) hC rfl ⟨dX4_tag_10, rfl⟩ ?_
    refine zk_getr (pc' := 14) hC fl_X4_35 (by first | decide | assumption | omega) (by first | rfl | assumption) rfl ⟨dX4_tag_11, rfl⟩ ?_
    refine zk_callV1 (pc' := 17) hC ml_X4_113 mi_X1_isBegun (c_X1_isBegun X I J hI (by omega)) (by decide) (by first | decide | assumption | omega) (by first | rfl | assumption) rfl rfl rfl (Nat.le_of_ble_eq_true rfl) ⟨dX4_tag_14, rfl⟩ ?_
    rw [if_pos (by omega)]
    refine zk_if_eqN (pc' := 20) hC ⟨dX4_tag_17, rfl⟩ 37 (by decide) (by omega) (fun q2 => ?_) (fun q2 => ?_)
    · omega
    · refine zk_aload_n (pc' := 21) hC rfl ⟨dX4_tag_20, rfl⟩ ?_
      refine zk_getr (pc' := 24) hC fl_X4_35 (by first | decide | assumption | omega) (by first | rfl | assumption) rfl ⟨dX4_tag_21, rfl⟩ ?_
      first | refine zk_getiN (pc' := 27) hC fl_X4_120 (by first | decide | assumption | omega) (by first | rfl | assumption) rfl (by first | assumption | (rw [zk_u_s]; rfl) | (rw [hI]; rfl)) ⟨dX4_tag_24, rfl⟩ ?_ | refine zk_geti (pc' := 27) hC fl_X4_120 (by first | decide | assumption | omega) (by first | rfl | assumption) rfl ⟨dX4_tag_24, rfl⟩ ?_
      refine zk_aload_n (pc' := 28) hC rfl ⟨dX4_tag_27, rfl⟩ ?_
      refine zk_getr (pc' := 31) hC fl_X4_35 (by first | decide | assumption | omega) (by first | rfl | assumption) rfl ⟨dX4_tag_28, rfl⟩ ?_
      refine zk_callV1 (pc' := 34) hC ml_X4_117 mi_X1_segments (c_X1_segments X I J hI) (by decide) (by first | decide | assumption | omega) (by first | rfl | assumption) rfl rfl rfl (Nat.le_of_ble_eq_true rfl) ⟨dX4_tag_31, rfl⟩ ?_
      refine zk_icmp_geN (pc' := 37) hC ⟨dX4_tag_34, rfl⟩ 40 (by decide) (by omega) (by omega) (fun q3 => ?_) (fun q3 => ?_)
      · refine zk_aload_n (pc' := 41) hC rfl ⟨dX4_tag_40, rfl⟩ ?_
        refine zk_getr (pc' := 44) hC fl_X4_28 (by first | decide | assumption | omega) (by first | rfl | assumption) rfl ⟨dX4_tag_41, rfl⟩ ?_
        refine zk_aload_n (pc' := 45) hC rfl ⟨dX4_tag_44, rfl⟩ ?_
        refine zk_getr (pc' := 48) hC fl_X4_35 (by first | decide | assumption | omega) (by first | rfl | assumption) rfl ⟨dX4_tag_45, rfl⟩ ?_
        first | refine zk_getiN (pc' := 51) hC fl_X4_136 (by first | decide | assumption | omega) (by first | rfl | assumption) rfl (by first | assumption | (rw [zk_u_s]; rfl) | (rw [hI]; rfl)) ⟨dX4_tag_48, rfl⟩ ?_ | refine zk_geti (pc' := 51) hC fl_X4_136 (by first | decide | assumption | omega) (by first | rfl | assumption) rfl ⟨dX4_tag_48, rfl⟩ ?_
        refine zk_callV0 (pc' := 54) hC ml_X4_85 mi_X2_openLong (c_X2_openLong X I J (n := tg) (by omega)) (by decide) (by first | decide | assumption | omega) (by first | rfl | assumption) rfl rfl rfl (Nat.le_of_ble_eq_true rfl) ⟨dX4_tag_51, rfl⟩ ?_
        have hM2 := tg_M_le (I := I) (J := J) (lb := lb) (ln := ln) (tg := tg)
        have hM2d : tg_M I J lb ln tg = fl_pl J lb ln (bz_pn 1028 (0, I 24) (lN tg) 4) 128 := rfl
        have hM1 : (bz_pn 1028 (0, I 24) (lN tg) 4).1 ≤ 1028 := bz_pn_le (Nat.zero_le _) 4
        unfold tg_T at hR
        generalize bz_pn 1028 (0, I 24) (lN tg) 4 = M1 at hM1 hM2d ⊢
        refine zk_aload_n (pc' := 55) hC rfl ⟨dX4_tag_54, rfl⟩ ?_
        refine zk_getr (pc' := 58) hC fl_X4_35 (by first | decide | assumption | omega) (by first | rfl | assumption) rfl ⟨dX4_tag_55, rfl⟩ ?_
        refine zk_aload_n (pc' := 59) hC rfl ⟨dX4_tag_58, rfl⟩ ?_
        refine zk_getr (pc' := 62) hC fl_X4_28 (by first | decide | assumption | omega) (by first | rfl | assumption) rfl ⟨dX4_tag_59, rfl⟩ ?_
        refine zk_getr (pc' := 65) hC fl_X4_69 (by first | decide | assumption | omega) (by first | rfl | assumption) rfl ⟨dX4_tag_62, rfl⟩ ?_
        refine zk_callV0 (pc' := 68) hC ml_X4_139 mi_X1_putLastBlocks (c_X1_putLastBlocks X (bz_set I 23 24 M1) J (bz_set_g hI) bz_set_c hM1 hnb hln (by omega)) (by decide) (by first | decide | assumption | omega) (by first | rfl | assumption) rfl rfl rfl (Nat.le_of_ble_eq_true rfl) ⟨dX4_tag_65, rfl⟩ ?_
        rw [bz_set_f (show 24 ≠ 23 by decide), bz_set_set (show 24 ≠ 23 by decide)]
        rw [show fl_pl J lb ln (M1.1, M1.2) 128 = tg_M I J lb ln tg from hM2d.symm]
        generalize tg_M I J lb ln tg = M2 at hM2 hR ⊢
        have hIg := bz_set_g (p := M2) hI
        have hIv : bz_set I 23 24 M2 30 7 = nI tg := by rw [hIg]; rfl
        refine zk_aload_n (pc' := 69) hC rfl ⟨dX4_tag_68, rfl⟩ ?_
        refine zk_getr (pc' := 72) hC fl_X4_28 (by first | decide | assumption | omega) (by first | rfl | assumption) rfl ⟨dX4_tag_69, rfl⟩ ?_
        refine zk_aload_n (pc' := 73) hC rfl ⟨dX4_tag_72, rfl⟩ ?_
        refine zk_getr (pc' := 76) hC fl_X4_35 (by first | decide | assumption | omega) (by first | rfl | assumption) rfl ⟨dX4_tag_73, rfl⟩ ?_
        first | refine zk_getiN (pc' := 79) hC fl_X4_136 (by first | decide | assumption | omega) (by first | rfl | assumption) rfl (by first | assumption | (rw [zk_u_s]; rfl) | (rw [hI]; rfl)) ⟨dX4_tag_76, rfl⟩ ?_ | refine zk_geti (pc' := 79) hC fl_X4_136 (by first | decide | assumption | omega) (by first | rfl | assumption) rfl ⟨dX4_tag_76, rfl⟩ ?_
        refine zk_callV0 (pc' := 82) hC ml_X4_88 mi_X2_makeLong (c_X2_makeLong X (bz_set I 23 24 M2) J bz_set_c hM2 (n := tg) (by omega) (by omega)) (by decide) (by first | decide | assumption | omega) (by first | rfl | assumption) rfl rfl rfl (Nat.le_of_ble_eq_true rfl) ⟨dX4_tag_79, rfl⟩ ?_
        rw [bz_set_f (show 24 ≠ 23 by decide), bz_set_o (a := 26) (by decide) (by decide), hz_I_m0]
        change zk_A 0 X E 82 _ _ (hz_I I (hz_LL I J M2 tg)) (hz_LL I J M2 tg).2.2
        have hTc := hz_LL_c (I := I) (J := J) (p := M2) (n := tg) hM2 (by omega)
        generalize hz_LL I J M2 tg = S at hTc hR ⊢
        refine zk_aload_n (pc' := 83) hC rfl ⟨dX4_tag_82, rfl⟩ ?_
        refine zk_iload_n (pc' := 84) hC rfl ⟨dX4_tag_83, rfl⟩ ?_
        refine zk_callV1 (pc' := 87) hC ml_X4_43 mi_X4_bytesOf (c_X4_bytesOf X _ _ (nI t)) (by decide) (by first | decide | assumption | omega) (by first | rfl | assumption) rfl rfl rfl (Nat.le_of_ble_eq_true rfl) ⟨dX4_tag_84, rfl⟩ ?_
        rw [(rg_nI ht).1]
        refine zk_aload_n (pc' := 88) hC rfl ⟨dX4_tag_87, rfl⟩ ?_
        refine zk_getr (pc' := 91) hC fl_X4_28 (by first | decide | assumption | omega) (by first | rfl | assumption) rfl ⟨dX4_tag_88, rfl⟩ ?_
        refine zk_getr (pc' := 94) hC fl_X4_79 (by first | decide | assumption | omega) (by first | rfl | assumption) rfl ⟨dX4_tag_91, rfl⟩ ?_
        refine zk_callV0 (pc' := 97) hC ml_X4_82 mi_X0_become (c_X0_become X (hz_I I S) _ (bz_reg t ht) bz_made (by omega) (by omega) hz_I_d (by omega)) (by decide) (bz_reg t ht).1 (bz_reg t ht).2.2.1 rfl rfl rfl (Nat.le_of_ble_eq_true rfl) ⟨dX4_tag_94, rfl⟩ ?_
        rw [hz_I_df, hz_I_o (a := 10 + t) (by omega)]
        change zk_A 0 X E 97 _ _ (rg_give I t S) S.2.2
        have hIv2 : rg_give I t S 30 7 = nI tg := by rw [rg_give, bz_set_o (by omega) (by omega), hz_I_o (by omega), hI]; rfl
        refine zk_aload_n (pc' := 98) hC rfl ⟨dX4_tag_97, rfl⟩ ?_
        refine zk_getr (pc' := 101) hC fl_X4_35 (by first | decide | assumption | omega) (by first | rfl | assumption) rfl ⟨dX4_tag_98, rfl⟩ ?_
        first | refine zk_getiN (pc' := 104) hC fl_X4_136 (by first | decide | assumption | omega) (by first | rfl | assumption) rfl (by first | assumption | (rw [zk_u_s]; rfl) | (rw [hI]; rfl)) ⟨dX4_tag_101, rfl⟩ ?_ | refine zk_geti (pc' := 104) hC fl_X4_136 (by first | decide | assumption | omega) (by first | rfl | assumption) rfl ⟨dX4_tag_101, rfl⟩ ?_
        exact zk_iret (pc' := 105) hC hR rfl rfl rfl ⟨dX4_tag_104, rfl⟩
      · omega
  · omega

set_option maxHeartbeats 1000000 in
set_option maxRecDepth 100000 in
theorem c_X4_seal_bad1 (X : zk_X) (I : zk_I) (J : zk_J) (t kd ln ps mm tg pw st : Int32) (hbad : ¬ is_r t) : zk_M 0 X yX4_seal cX4_seal 10 ((some .int)) (7, 169) [.ref (zk_ad X 0), .int t, .int kd, .int ln, .int ps, .int mm, .int tg, .int pw, .int st] I J (some (.int (-2))) I J := by
  refine zk_M.intro (by decide) (lv := [some (.ref (zk_ad X 0)), some (.int t), some (.int kd), some (.int ln), some (.int ps), some (.int mm), some (.int tg), some (.int pw), some (.int st), none]) rfl rfl (fun E hC hR => ?_)
  refine zk_iload_n (pc' := 1) hC rfl ⟨dX4_seal_0, rfl⟩ ?_
  refine zk_callS1 (pc' := 4) hC ml_X4_39 ms_X4_isRegister (c_X4_isRegister X I J t) (by decide) rfl rfl (Nat.le_of_ble_eq_true rfl) ⟨dX4_seal_1, rfl⟩ ?_
  rw [if_neg hbad]
  refine zk_if_neN (pc' := 7) hC ⟨dX4_seal_4, rfl⟩ 10 (by decide) (by omega) (fun q => ?_) (fun q => ?_)
  · omega
  · refine zk_bipush (pc' := 9) (x := (-2 : Int32)) hC ⟨dX4_seal_7, rfl⟩ zc_bipush_m2 ?_
    exact zk_iret (pc' := 10) hC hR rfl rfl rfl ⟨dX4_seal_9, rfl⟩

set_option maxHeartbeats 1000000 in
set_option maxRecDepth 100000 in
theorem c_X4_seal_bad2 (X : zk_X) (I : zk_I) (J : zk_J) (t kd ln ps mm tg pw st : Int32) {e : Nat} (ht : is_r t) (he : I (rg_p st) 1 = nI e) (he2 : e ≤ 200) (hbad : ¬ (fl_poss kd ln ps mm tg ∧ is_r pw ∧ ((-1 : Int32) = -1 ∨ is_r (-1)) ∧ ((-1 : Int32) = -1 ∨ is_r (-1)) ∧ is_r st ∧ 8 ≤ e)) : zk_M 0 X yX4_seal cX4_seal 10 ((some .int)) (7, 169) [.ref (zk_ad X 0), .int t, .int kd, .int ln, .int ps, .int mm, .int tg, .int pw, .int st] I J (some (.int (-2))) I J := by
  refine zk_M.intro (by decide) (lv := [some (.ref (zk_ad X 0)), some (.int t), some (.int kd), some (.int ln), some (.int ps), some (.int mm), some (.int tg), some (.int pw), some (.int st), none]) rfl rfl (fun E hC hR => ?_)
  refine zk_iload_n (pc' := 1) hC rfl ⟨dX4_seal_0, rfl⟩ ?_
  refine zk_callS1 (pc' := 4) hC ml_X4_39 ms_X4_isRegister (c_X4_isRegister X I J t) (by decide) rfl rfl (Nat.le_of_ble_eq_true rfl) ⟨dX4_seal_1, rfl⟩ ?_
  rw [if_pos ht]
  refine zk_if_neN (pc' := 7) hC ⟨dX4_seal_4, rfl⟩ 10 (by decide) (by omega) (fun q => ?_) (fun q => ?_)
  · refine zk_aload_n (pc' := 11) hC rfl ⟨dX4_seal_10, rfl⟩ ?_
    refine zk_iload_n (pc' := 12) hC rfl ⟨dX4_seal_11, rfl⟩ ?_
    refine zk_iload_n (pc' := 13) hC rfl ⟨dX4_seal_12, rfl⟩ ?_
    refine zk_iload (pc' := 15) hC rfl ⟨dX4_seal_13, rfl⟩ ?_
    refine zk_iload (pc' := 17) hC rfl ⟨dX4_seal_15, rfl⟩ ?_
    refine zk_iload (pc' := 19) hC rfl ⟨dX4_seal_17, rfl⟩ ?_
    refine zk_iload (pc' := 21) hC rfl ⟨dX4_seal_19, rfl⟩ ?_
    refine zk_iload (pc' := 23) hC rfl ⟨dX4_seal_21, rfl⟩ ?_
    refine zk_iconst (pc' := 24) (x := (-1 : Int32)) hC ⟨dX4_seal_23, rfl⟩ zc_iconst_m1 ?_
    refine zk_iconst (pc' := 25) (x := (-1 : Int32)) hC ⟨dX4_seal_24, rfl⟩ zc_iconst_m1 ?_
    refine zk_callV1 (pc' := 28) hC ml_X4_151 mi_X4_begin (c_X4_begin_bad X I J kd ln ps mm tg pw st (-1) (-1) he he2 hbad) (by decide) (by first | decide | assumption | omega) (by first | rfl | assumption) rfl rfl rfl (Nat.le_of_ble_eq_true rfl) ⟨dX4_seal_25, rfl⟩ ?_
    refine zk_is9 (pc' := 30) hC ⟨dX4_seal_28, rfl⟩ rfl ?_
    refine zk_iload (pc' := 32) hC rfl ⟨dX4_seal_30, rfl⟩ ?_
    refine zk_bipush (pc' := 34) (x := (-2 : Int32)) hC ⟨dX4_seal_32, rfl⟩ zc_bipush_m2 ?_
    refine zk_icmp_ne (pc' := 37) hC ⟨dX4_seal_34, rfl⟩ 40 (by decide) (fun q2 => ?_) (fun q2 => ?_)
    · exact absurd rfl q2
    · refine zk_bipush (pc' := 39) (x := (-2 : Int32)) hC ⟨dX4_seal_37, rfl⟩ zc_bipush_m2 ?_
      exact zk_iret (pc' := 40) hC hR rfl rfl rfl ⟨dX4_seal_39, rfl⟩
  · omega

theorem nI_m2 {n : Nat} (h : n < 2 ^ 31) : ¬ nI n = -2 := fun e => nI_pos h (by rw [e]; decide)
/-- all at once, behind begin: every segment, the tag -/
def sl_I (I : zk_I) (g0 : Nat → Int32) (kd ln ps tg lb sb : Nat) : zk_I := fs_I I g0 kd ln ps tg lb sb 0 (min 100 (ps * 4 * ln - 0))
def sl_J (J : zk_J) (kd ln ps lb sb : Nat) : zk_J := fs_J J kd ln ps lb sb 0 (min 100 (ps * 4 * ln - 0))
def sl_S (s : zk_I × zk_J) (g0 : Nat → Int32) (t kd ln ps tg lb sb : Nat) : zk_I × zk_J := (rg_give (sl_I s.1 g0 kd ln ps tg lb sb) t (tg_T (sl_I s.1 g0 kd ln ps tg lb sb) (sl_J s.2 kd ln ps lb sb) lb ln tg), (tg_T (sl_I s.1 g0 kd ln ps tg lb sb) (sl_J s.2 kd ln ps lb sb) lb ln tg).2.2)

set_option maxHeartbeats 1000000 in
set_option maxRecDepth 100000 in
theorem c_X4_seal_ok (X : zk_X) (I : zk_I) (J : zk_J) {g0 : Nat → Int32} {kd ln ps tg lb sb dn pa sl la : Nat} (hI : I 30 = fl_g g0 kd ln ps tg lb sb dn pa sl la) {t k2 l2 p2 mm t2 w2 s2 e1 e2 : Nat} (ht : t < 8) (hpos : fl_poss (nI k2) (nI l2) (nI p2) (nI mm) (nI t2)) (h2 : k2 ≤ 2) (h3 : 1 ≤ l2) (h4 : l2 ≤ 4) (h5 : 8 * l2 ≤ mm) (h6 : mm ≤ 128) (h7 : p2 ≤ 5) (h8 : t2 ≤ 128) (h9 : 1 ≤ p2) (h10 : 1 ≤ t2) (hw2 : w2 < 8) (hs2 : s2 < 8) (he1 : I (rg_p (nI w2)) 1 = nI e1) (he1n : e1 ≤ rg_n (nI w2)) (he2 : I (rg_p (nI s2)) 1 = nI e2) (he2n : e2 ≤ rg_n (nI s2)) (he8 : 8 ≤ e2) (he3 : I (rg_p (-1)) 1 = nI 0) : zk_M 0 X yX4_seal cX4_seal 10 ((some .int)) (7, 169) [.ref (zk_ad X 0), .int (nI t), .int (nI k2), .int (nI l2), .int (nI p2), .int (nI mm), .int (nI t2), .int (nI w2), .int (nI s2)] I J (some (.int (nI t2))) (sl_S (bg_S I J g0 k2 l2 p2 mm t2 pa sl la e1 e2 0 0 (nI w2) (nI s2) (-1) (-1)) g0 t k2 l2 p2 t2 (4 * (mm / (4 * l2))) (mm / (4 * l2))).1 (sl_S (bg_S I J g0 k2 l2 p2 mm t2 pa sl la e1 e2 0 0 (nI w2) (nI s2) (-1) (-1)) g0 t k2 l2 p2 t2 (4 * (mm / (4 * l2))) (mm / (4 * l2))).2 := by
  refine zk_M.intro (by decide) (lv := [some (.ref (zk_ad X 0)), some (.int (nI t)), some (.int (nI k2)), some (.int (nI l2)), some (.int (nI p2)), some (.int (nI mm)), some (.int (nI t2)), some (.int (nI w2)), some (.int (nI s2)), none]) rfl rfl (fun E hC hR => ?_)
  have hsb := fl_sb h3 h4 h5 h6
  have hwi : fl_is k2 l2 p2 t2 (4 * (mm / (4 * l2))) (mm / (4 * l2)) := ⟨h2, h3, h4, h9, h7, h8, rfl, hsb.1, hsb.2.1, hsb.2.2⟩
  have hseg : p2 * 4 * l2 ≤ 80 := by
    have : p2 * 4 * l2 ≤ 20 * 4 := Nat.mul_le_mul (by omega) (by omega)
    omega
  refine zk_iload_n (pc' := 1) hC rfl ⟨dX4_seal_0, rfl⟩ ?_
  refine zk_callS1 (pc' := 4) hC ml_X4_39 ms_X4_isRegister (c_X4_isRegister X I J (nI t)) (by decide) rfl rfl (Nat.le_of_ble_eq_true rfl) ⟨dX4_seal_1, rfl⟩ ?_
  rw [if_pos (is_r_nI ht)]
  refine zk_if_neN (pc' := 7) hC ⟨dX4_seal_4, rfl⟩ 10 (by decide) (by omega) (fun q => ?_) (fun q => ?_)
  · refine zk_aload_n (pc' := 11) hC rfl ⟨dX4_seal_10, rfl⟩ ?_
    refine zk_iload_n (pc' := 12) hC rfl ⟨dX4_seal_11, rfl⟩ ?_
    refine zk_iload_n (pc' := 13) hC rfl ⟨dX4_seal_12, rfl⟩ ?_
    refine zk_iload (pc' := 15) hC rfl ⟨dX4_seal_13, rfl⟩ ?_
    refine zk_iload (pc' := 17) hC rfl ⟨dX4_seal_15, rfl⟩ ?_
    refine zk_iload (pc' := 19) hC rfl ⟨dX4_seal_17, rfl⟩ ?_
    refine zk_iload (pc' := 21) hC rfl ⟨dX4_seal_19, rfl⟩ ?_
    refine zk_iload (pc' := 23) hC rfl ⟨dX4_seal_21, rfl⟩ ?_
    refine zk_iconst (pc' := 24) (x := (-1 : Int32)) hC ⟨dX4_seal_23, rfl⟩ zc_iconst_m1 ?_
    refine zk_iconst (pc' := 25) (x := (-1 : Int32)) hC ⟨dX4_seal_24, rfl⟩ zc_iconst_m1 ?_
    refine zk_callV1 (pc' := 28) hC ml_X4_151 mi_X4_begin (c_X4_begin_ok X I J hI (-1) (-1) hpos h2 h3 h4 h5 h6 h7 h8 hw2 hs2 (Or.inl rfl) (Or.inl rfl) he1 he1n he2 he2n he8 he3 (Nat.zero_le _) he3 (Nat.zero_le _)) (by decide) (by first | decide | assumption | omega) (by first | rfl | assumption) rfl rfl rfl (Nat.le_of_ble_eq_true rfl) ⟨dX4_seal_25, rfl⟩ ?_
    have hI3 : (bg_S I J g0 k2 l2 p2 mm t2 pa sl la e1 e2 0 0 (nI w2) (nI s2) (-1) (-1)).1 30 = fl_g g0 k2 l2 p2 t2 (4 * (mm / (4 * l2))) (mm / (4 * l2)) 0 pa sl la := by
      unfold bg_S
      rw [lf_o (by omega)]
      dsimp only
      rw [bg_I2, bz_set_o (by decide) (by decide), hz_I_o (by omega)]
      exact zk_u_s
    generalize bg_S I J g0 k2 l2 p2 mm t2 pa sl la e1 e2 0 0 (nI w2) (nI s2) (-1) (-1) = S at hI3 hR ⊢
    obtain ⟨I3, J3⟩ := S
    dsimp only at hI3 hR ⊢
    generalize mm / (4 * l2) = sb at hsb hwi hI3 hR ⊢
    refine zk_is9 (pc' := 30) hC ⟨dX4_seal_28, rfl⟩ rfl ?_
    refine zk_iload (pc' := 32) hC rfl ⟨dX4_seal_30, rfl⟩ ?_
    refine zk_bipush (pc' := 34) (x := (-2 : Int32)) hC ⟨dX4_seal_32, rfl⟩ zc_bipush_m2 ?_
    refine zk_icmp_ne (pc' := 37) hC ⟨dX4_seal_34, rfl⟩ 40 (by decide) (fun q2 => ?_) (fun q2 => ?_)
    · refine zk_aload_n (pc' := 41) hC rfl ⟨dX4_seal_40, rfl⟩ ?_
      refine zk_bipush (pc' := 43) (x := nI 100) hC ⟨dX4_seal_41, rfl⟩ zc_bipush_100 ?_
      refine zk_callV1 (pc' := 46) hC ml_X4_155 mi_X4_fill (c_X4_fill_ok X I3 J3 hI3 (n := 100) (by decide) (by decide) hwi (Nat.zero_le _)) (by decide) (by first | decide | assumption | omega) (by first | rfl | assumption) rfl rfl rfl (Nat.le_of_ble_eq_true rfl) ⟨dX4_seal_43, rfl⟩ ?_
      obtain ⟨pa4, sl4, la4, hI4⟩ := fs_I_30 hI3 (min 100 (p2 * 4 * l2 - 0))
      rw [show 0 + min 100 (p2 * 4 * l2 - 0) = p2 * 4 * l2 by omega] at hI4
      unfold sl_S sl_I sl_J at hR
      dsimp only at hR
      generalize fs_I I3 g0 k2 l2 p2 t2 (4 * sb) sb 0 (min 100 (p2 * 4 * l2 - 0)) = I4 at hI4 hR ⊢
      generalize fs_J J3 k2 l2 p2 (4 * sb) sb 0 (min 100 (p2 * 4 * l2 - 0)) = J4 at hR ⊢
      refine zk_pop (pc' := 47) hC ⟨dX4_seal_46, rfl⟩ rfl ?_
      refine zk_aload_n (pc' := 48) hC rfl ⟨dX4_seal_47, rfl⟩ ?_
      refine zk_iload_n (pc' := 49) hC rfl ⟨dX4_seal_48, rfl⟩ ?_
      refine zk_callV1 (pc' := 52) hC ml_X4_158 mi_X4_tag (c_X4_tag_ok X I4 J4 hI4 ht h3 h4 (by omega) hsb.2.2 h10 h8 hseg rfl) (by decide) (by first | decide | assumption | omega) (by first | rfl | assumption) rfl rfl rfl (Nat.le_of_ble_eq_true rfl) ⟨dX4_seal_49, rfl⟩ ?_
      exact zk_iret (pc' := 53) hC hR rfl rfl rfl ⟨dX4_seal_52, rfl⟩
    · exact absurd q2 (nI_m2 (by omega))
  · omega

