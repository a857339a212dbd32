/-! THE REFERENCE: segments -/
theorem fl_wrap_mod {a lb : Nat} (h : a < 2 * lb) : fl_wrap a lb = a % lb := by
  unfold fl_wrap
  split
  · rw [Nat.mod_eq_of_lt (by assumption)]
  · rw [Nat.mod_eq_sub_mod (by omega), Nat.mod_eq_of_lt (by omega)]

set_option maxHeartbeats 1000000 in
set_option maxRecDepth 100000 in
theorem c_X5_farBlock (X : zk_X) (I : zk_I) (J : zk_J) {g0 : Nat → Int32} {th ks sz bg kd ln ps tg sc dn : Nat} (hI : I 0 = md_g g0 th ks sz bg kd ln ps tg sc dn) {pa sl la i : Nat} (x : Int64) (hok : fl_ok ln (4 * sc) sc pa sl la i) : zk_M 1 X yX5_farBlock cX5_farBlock 19 ((some .int)) (1, 21) [.ref (zk_ad X 0), .int (nI pa), .int (nI la), .int (nI sl), .int (nI i), .long x] I J (some (.int (nI (fl_far ln (4 * sc) sc pa sl la i (fl_nn x))))) I J := by
  refine zk_M.intro (by decide) (lv := [some (.ref (zk_ad X 0)), some (.int (nI pa)), some (.int (nI la)), some (.int (nI sl)), some (.int (nI i)), some (.long x), none, none, none, none, none, none, none, none, none, none, none, none, none]) rfl rfl (fun E hC hR => ?_)
  have hnn := fl_nn_lt x
  rw [fl_nn_eq x]
  have hfl := fl_fla_lt (fl_nn x) hok
  have hub := fl_u_b (fl_nn x) hok
  have hfin := fl_fin_b hok
  have hfst := fl_first_b hok
  have hjj := fl_jj (fl_nn x)
  have hxx := fl_xx_lt (fl_nn x)
  obtain ⟨h1, h2, h3, h4, h5, h6, h7, h8, h9, h10, h11⟩ := id hok
  unfold fl_far at hR
  have hfla : fl_fla ln pa sl la (fl_nn x) = if (pa = 0 ∧ sl = 0) ∨ ln < 2 then la else fl_nn x / 2 ^ 32 % ln := rfl
  have hfi : fl_fin pa sl sc (4 * sc) = if pa = 0 then sl * sc else 4 * sc - sc := rfl
  have hui : fl_u (fl_fla ln pa sl la (fl_nn x)) la (fl_fin pa sl sc (4 * sc)) i = if fl_fla ln pa sl la (fl_nn x) = la then fl_fin pa sl sc (4 * sc) + i - 1 else fl_fin pa sl sc (4 * sc) - (if i = 0 then 1 else 0) := rfl
  have hne : ¬ fl_fla ln pa sl la (fl_nn x) = la → ¬ (pa = 0 ∧ sl = 0) := fun hl e => hl (by rw [hfla, if_pos (Or.inl e)])
  generalize fl_u (fl_fla ln pa sl la (fl_nn x)) la (fl_fin pa sl sc (4 * sc)) i = u at hR hub hui
  generalize fl_fla ln pa sl la (fl_nn x) = fla at hR hfl hfla hui hne
  generalize fl_fin pa sl sc (4 * sc) = fin at hR hfin hfi hui
  have hux := fl_ux (u := u) (n := fl_nn x) hub.1
  have hyd : fl_y u (fl_nn x) = u - 1 - u * fl_xx (fl_nn x) / 2 ^ 32 := rfl
  have hxd : fl_xx (fl_nn x) = fl_nn x % 2 ^ 32 * (fl_nn x % 2 ^ 32) / 2 ^ 32 := rfl
  have hum : u * fl_xx (fl_nn x) < 2 ^ 64 := by
    have : u * fl_xx (fl_nn x) ≤ 128 * 2 ^ 32 := Nat.mul_le_mul (by omega) (Nat.le_of_lt hxx)
    omega
  generalize fl_nn x = nn at hR hnn hjj hxx hux hyd hxd hum hfla ⊢
  generalize hY : fl_y u nn = y at hR hyd
  generalize hXX : fl_xx nn = xx at hxx hux hyd hxd hum
  have hfsd : fl_first pa sl sc = if pa = 0 ∨ sl = 3 then 0 else (sl + 1) * sc := rfl
  generalize fl_first pa sl sc = fst at hR hfst hfsd
  have hmask : lN nn &&& 4294967295 = lN (nn % 2 ^ 32) := by rw [show (4294967295 : Int64) = lN (2 ^ 32 - 1) from rfl, wb_mask hnn (by decide)]
  have hflb : ¬ (pa = 0 ∧ sl = 0) → nn / 2 ^ 32 % ln = fla := fun hno => by
    rw [hfla]
    by_cases hcc : (pa = 0 ∧ sl = 0) ∨ ln < 2
    · rw [if_pos hcc]
      have h1' : ln = 1 := by omega
      rw [h1', Nat.mod_one]
      omega
    · rw [if_neg hcc]
  have hsm : sc * sl ≤ sc * 3 := Nat.mul_le_mul_left sc (by omega)
  have hsm1 : sc * (sl + 1) ≤ sc * 4 := Nat.mul_le_mul_left sc (by omega)
  refine zk_iconst (pc' := 1) (x := nI 4) hC ⟨dX5_farBlock_0, rfl⟩ zc_iconst_4 ?_
  refine zk_aload_n (pc' := 2) hC rfl ⟨dX5_farBlock_1, rfl⟩ ?_
  first | refine zk_getiN (pc' := 5) hC fl_X5_177 (by first | decide | assumption | omega) (by first | rfl | assumption) rfl (by first | assumption | (rw [zk_u_s]; rfl) | (rw [hI]; rfl)) ⟨dX5_farBlock_2, rfl⟩ ?_ | refine zk_geti (pc' := 5) hC fl_X5_177 (by first | decide | assumption | omega) (by first | rfl | assumption) rfl ⟨dX5_farBlock_2, rfl⟩ ?_
  first | refine zk_imulN (pc' := 6) hC ⟨dX5_farBlock_5, rfl⟩ ?_ | refine zk_imul (pc' := 6) hC ⟨dX5_farBlock_5, rfl⟩ ?_
  refine zk_is7 (pc' := 8) hC ⟨dX5_farBlock_6, rfl⟩ rfl ?_
  suffices h32 : zk_A 1 X E 32 [some (.ref (zk_ad X 0)), some (.int (nI pa)), some (.int (nI la)), some (.int (nI sl)), some (.int (nI i)), some (.long (lN nn)), none, some (.int (nI (4 * sc))), none, none, none, none, none, none, none, none, none, none, none] [.int (nI fla)] I J by
    refine zk_iload_n (pc' := 9) hC rfl ⟨dX5_farBlock_8, rfl⟩ ?_
    refine zk_if_neN (pc' := 12) hC ⟨dX5_farBlock_9, rfl⟩ 20 (by decide) (by omega) (fun q => ?_) (fun q => ?_)
    · refine zk_lload (pc' := 22) hC rfl ⟨dX5_farBlock_20, rfl⟩ ?_
      refine zk_bipush (pc' := 24) (x := nI 32) hC ⟨dX5_farBlock_22, rfl⟩ zc_bipush_32 ?_
      first | refine zk_lushrN (pc' := 25) hC ⟨dX5_farBlock_24, rfl⟩ (by omega) (by decide) ?_ | refine zk_lushr (pc' := 25) hC ⟨dX5_farBlock_24, rfl⟩ ?_
      refine zk_aload_n (pc' := 26) hC rfl ⟨dX5_farBlock_25, rfl⟩ ?_
      first | refine zk_getiN (pc' := 29) hC fl_X5_168 (by first | decide | assumption | omega) (by first | rfl | assumption) rfl (by first | assumption | (rw [zk_u_s]; rfl) | (rw [hI]; rfl)) ⟨dX5_farBlock_26, rfl⟩ ?_ | refine zk_geti (pc' := 29) hC fl_X5_168 (by first | decide | assumption | omega) (by first | rfl | assumption) rfl ⟨dX5_farBlock_26, rfl⟩ ?_
      first | refine zk_i2lN (pc' := 30) hC ⟨dX5_farBlock_29, rfl⟩ (by omega) ?_ | refine zk_i2l (pc' := 30) hC ⟨dX5_farBlock_29, rfl⟩ ?_
      refine zk_lremN (pc' := 31) hC ⟨dX5_farBlock_30, rfl⟩ (by omega) (by omega) (by omega) ?_
      first | refine zk_l2iN (pc' := 32) hC ⟨dX5_farBlock_31, rfl⟩ ?_ | refine zk_l2i (pc' := 32) hC ⟨dX5_farBlock_31, rfl⟩ ?_
      rw [hflb (by omega)]
      exact h32
    · refine zk_iload_n (pc' := 13) hC rfl ⟨dX5_farBlock_12, rfl⟩ ?_
      refine zk_if_neN (pc' := 16) hC ⟨dX5_farBlock_13, rfl⟩ 20 (by decide) (by omega) (fun q2 => ?_) (fun q2 => ?_)
      · refine zk_lload (pc' := 22) hC rfl ⟨dX5_farBlock_20, rfl⟩ ?_
        refine zk_bipush (pc' := 24) (x := nI 32) hC ⟨dX5_farBlock_22, rfl⟩ zc_bipush_32 ?_
        first | refine zk_lushrN (pc' := 25) hC ⟨dX5_farBlock_24, rfl⟩ (by omega) (by decide) ?_ | refine zk_lushr (pc' := 25) hC ⟨dX5_farBlock_24, rfl⟩ ?_
        refine zk_aload_n (pc' := 26) hC rfl ⟨dX5_farBlock_25, rfl⟩ ?_
        first | refine zk_getiN (pc' := 29) hC fl_X5_168 (by first | decide | assumption | omega) (by first | rfl | assumption) rfl (by first | assumption | (rw [zk_u_s]; rfl) | (rw [hI]; rfl)) ⟨dX5_farBlock_26, rfl⟩ ?_ | refine zk_geti (pc' := 29) hC fl_X5_168 (by first | decide | assumption | omega) (by first | rfl | assumption) rfl ⟨dX5_farBlock_26, rfl⟩ ?_
        first | refine zk_i2lN (pc' := 30) hC ⟨dX5_farBlock_29, rfl⟩ (by omega) ?_ | refine zk_i2l (pc' := 30) hC ⟨dX5_farBlock_29, rfl⟩ ?_
        refine zk_lremN (pc' := 31) hC ⟨dX5_farBlock_30, rfl⟩ (by omega) (by omega) (by omega) ?_
        first | refine zk_l2iN (pc' := 32) hC ⟨dX5_farBlock_31, rfl⟩ ?_ | refine zk_l2i (pc' := 32) hC ⟨dX5_farBlock_31, rfl⟩ ?_
        rw [hflb (by omega)]
        exact h32
      · refine zk_iload_n (pc' := 17) hC rfl ⟨dX5_farBlock_16, rfl⟩ ?_
        refine zk_goto (pc' := 20) hC ⟨dX5_farBlock_17, rfl⟩ 32 (by decide) ?_
        rw [hfla, if_pos (Or.inl ⟨q, q2⟩)] at h32
        exact h32
  refine zk_is8 (pc' := 34) hC ⟨dX5_farBlock_32, rfl⟩ rfl ?_
  suffices h56 : zk_A 1 X E 56 [some (.ref (zk_ad X 0)), some (.int (nI pa)), some (.int (nI la)), some (.int (nI sl)), some (.int (nI i)), some (.long (lN nn)), none, some (.int (nI (4 * sc))), some (.int (nI fla)), none, none, none, none, none, none, none, none, none, none] [.long (lN fin)] I J by
    refine zk_iload_n (pc' := 35) hC rfl ⟨dX5_farBlock_34, rfl⟩ ?_
    refine zk_if_neN (pc' := 38) hC ⟨dX5_farBlock_35, rfl⟩ 48 (by decide) (by omega) (fun q => ?_) (fun q => ?_)
    · refine zk_iload (pc' := 50) hC rfl ⟨dX5_farBlock_48, rfl⟩ ?_
      refine zk_aload_n (pc' := 51) hC rfl ⟨dX5_farBlock_50, rfl⟩ ?_
      first | refine zk_getiN (pc' := 54) hC fl_X5_177 (by first | decide | assumption | omega) (by first | rfl | assumption) rfl (by first | assumption | (rw [zk_u_s]; rfl) | (rw [hI]; rfl)) ⟨dX5_farBlock_51, rfl⟩ ?_ | refine zk_geti (pc' := 54) hC fl_X5_177 (by first | decide | assumption | omega) (by first | rfl | assumption) rfl ⟨dX5_farBlock_51, rfl⟩ ?_
      first | refine zk_isubN (pc' := 55) hC ⟨dX5_farBlock_54, rfl⟩ (by omega) ?_ | refine zk_isub (pc' := 55) hC ⟨dX5_farBlock_54, rfl⟩ ?_
      first | refine zk_i2lN (pc' := 56) hC ⟨dX5_farBlock_55, rfl⟩ (by omega) ?_ | refine zk_i2l (pc' := 56) hC ⟨dX5_farBlock_55, rfl⟩ ?_
      rw [hfi, if_neg q] at h56
      exact h56
    · refine zk_aload_n (pc' := 39) hC rfl ⟨dX5_farBlock_38, rfl⟩ ?_
      first | refine zk_getiN (pc' := 42) hC fl_X5_177 (by first | decide | assumption | omega) (by first | rfl | assumption) rfl (by first | assumption | (rw [zk_u_s]; rfl) | (rw [hI]; rfl)) ⟨dX5_farBlock_39, rfl⟩ ?_ | refine zk_geti (pc' := 42) hC fl_X5_177 (by first | decide | assumption | omega) (by first | rfl | assumption) rfl ⟨dX5_farBlock_39, rfl⟩ ?_
      refine zk_iload_n (pc' := 43) hC rfl ⟨dX5_farBlock_42, rfl⟩ ?_
      first | refine zk_imulN (pc' := 44) hC ⟨dX5_farBlock_43, rfl⟩ ?_ | refine zk_imul (pc' := 44) hC ⟨dX5_farBlock_43, rfl⟩ ?_
      first | refine zk_i2lN (pc' := 45) hC ⟨dX5_farBlock_44, rfl⟩ (by omega) ?_ | refine zk_i2l (pc' := 45) hC ⟨dX5_farBlock_44, rfl⟩ ?_
      refine zk_goto (pc' := 48) hC ⟨dX5_farBlock_45, rfl⟩ 56 (by decide) ?_
      rw [hfi, if_pos q, Nat.mul_comm sl sc] at h56
      exact h56
  refine zk_ls9 (pc' := 58) hC ⟨dX5_farBlock_56, rfl⟩ rfl ?_
  suffices h88 : zk_A 1 X E 88 [some (.ref (zk_ad X 0)), some (.int (nI pa)), some (.int (nI la)), some (.int (nI sl)), some (.int (nI i)), some (.long (lN nn)), none, some (.int (nI (4 * sc))), some (.int (nI fla)), some (.long (lN fin)), none, none, none, none, none, none, none, none, none] [.long (lN u)] I J by
    refine zk_iload (pc' := 60) hC rfl ⟨dX5_farBlock_58, rfl⟩ ?_
    refine zk_iload_n (pc' := 61) hC rfl ⟨dX5_farBlock_60, rfl⟩ ?_
    refine zk_icmp_neN (pc' := 64) hC ⟨dX5_farBlock_61, rfl⟩ 75 (by decide) (by omega) (by omega) (fun q => ?_) (fun q => ?_)
    · have hne2 := hne q
      refine zk_lload (pc' := 77) hC rfl ⟨dX5_farBlock_75, rfl⟩ ?_
      refine zk_iload (pc' := 79) hC rfl ⟨dX5_farBlock_77, rfl⟩ ?_
      refine zk_if_neN (pc' := 82) hC ⟨dX5_farBlock_79, rfl⟩ 86 (by decide) (by omega) (fun q2 => ?_) (fun q2 => ?_)
      · refine zk_lconst (pc' := 87) (x := lN 0) hC ⟨dX5_farBlock_86, rfl⟩ rfl ?_
        first | refine zk_lsubN (pc' := 88) hC ⟨dX5_farBlock_87, rfl⟩ (by omega) ?_ | refine zk_lsub (pc' := 88) hC ⟨dX5_farBlock_87, rfl⟩ ?_
        rw [hui, if_neg q, if_neg q2] at h88
        exact h88
      · refine zk_lconst (pc' := 83) (x := lN 1) hC ⟨dX5_farBlock_82, rfl⟩ rfl ?_
        refine zk_goto (pc' := 86) hC ⟨dX5_farBlock_83, rfl⟩ 87 (by decide) ?_
        first | refine zk_lsubN (pc' := 88) hC ⟨dX5_farBlock_87, rfl⟩ (by omega) ?_ | refine zk_lsub (pc' := 88) hC ⟨dX5_farBlock_87, rfl⟩ ?_
        rw [hui, if_neg q, if_pos q2] at h88
        exact h88
    · refine zk_lload (pc' := 66) hC rfl ⟨dX5_farBlock_64, rfl⟩ ?_
      refine zk_iload (pc' := 68) hC rfl ⟨dX5_farBlock_66, rfl⟩ ?_
      first | refine zk_i2lN (pc' := 69) hC ⟨dX5_farBlock_68, rfl⟩ (by omega) ?_ | refine zk_i2l (pc' := 69) hC ⟨dX5_farBlock_68, rfl⟩ ?_
      first | refine zk_laddN (pc' := 70) hC ⟨dX5_farBlock_69, rfl⟩ ?_ | refine zk_ladd (pc' := 70) hC ⟨dX5_farBlock_69, rfl⟩ ?_
      refine zk_lconst (pc' := 71) (x := lN 1) hC ⟨dX5_farBlock_70, rfl⟩ rfl ?_
      first | refine zk_lsubN (pc' := 72) hC ⟨dX5_farBlock_71, rfl⟩ (by omega) ?_ | refine zk_lsub (pc' := 72) hC ⟨dX5_farBlock_71, rfl⟩ ?_
      refine zk_goto (pc' := 75) hC ⟨dX5_farBlock_72, rfl⟩ 88 (by decide) ?_
      rw [hui, if_pos q] at h88
      exact h88
  refine zk_ls11 (pc' := 90) hC ⟨dX5_farBlock_88, rfl⟩ rfl ?_
  refine zk_lload (pc' := 92) hC rfl ⟨dX5_farBlock_90, rfl⟩ ?_
  refine zk_callS1 (pc' := 95) hC ml_X5_192 ms_X5_half (c_X5_half X I J (lN nn)) (by decide) rfl rfl (Nat.le_of_ble_eq_true rfl) ⟨dX5_farBlock_92, rfl⟩ ?_
  rw [hmask]
  refine zk_lload (pc' := 97) hC rfl ⟨dX5_farBlock_95, rfl⟩ ?_
  refine zk_callS1 (pc' := 100) hC ml_X5_192 ms_X5_half (c_X5_half X I J (lN nn)) (by decide) rfl rfl (Nat.le_of_ble_eq_true rfl) ⟨dX5_farBlock_97, rfl⟩ ?_
  rw [hmask]
  first | refine zk_lmulN (pc' := 101) hC ⟨dX5_farBlock_100, rfl⟩ ?_ | refine zk_lmul (pc' := 101) hC ⟨dX5_farBlock_100, rfl⟩ ?_
  refine zk_bipush (pc' := 103) (x := nI 32) hC ⟨dX5_farBlock_101, rfl⟩ zc_bipush_32 ?_
  first | refine zk_lushrN (pc' := 104) hC ⟨dX5_farBlock_103, rfl⟩ (by omega) (by decide) ?_ | refine zk_lushr (pc' := 104) hC ⟨dX5_farBlock_103, rfl⟩ ?_
  rw [← hxd]
  refine zk_ls13 (pc' := 106) hC ⟨dX5_farBlock_104, rfl⟩ rfl ?_
  refine zk_lload (pc' := 108) hC rfl ⟨dX5_farBlock_106, rfl⟩ ?_
  refine zk_lconst (pc' := 109) (x := lN 1) hC ⟨dX5_farBlock_108, rfl⟩ rfl ?_
  first | refine zk_lsubN (pc' := 110) hC ⟨dX5_farBlock_109, rfl⟩ (by omega) ?_ | refine zk_lsub (pc' := 110) hC ⟨dX5_farBlock_109, rfl⟩ ?_
  refine zk_lload (pc' := 112) hC rfl ⟨dX5_farBlock_110, rfl⟩ ?_
  refine zk_lload (pc' := 114) hC rfl ⟨dX5_farBlock_112, rfl⟩ ?_
  first | refine zk_lmulN (pc' := 115) hC ⟨dX5_farBlock_114, rfl⟩ ?_ | refine zk_lmul (pc' := 115) hC ⟨dX5_farBlock_114, rfl⟩ ?_
  refine zk_bipush (pc' := 117) (x := nI 32) hC ⟨dX5_farBlock_115, rfl⟩ zc_bipush_32 ?_
  first | refine zk_lushrN (pc' := 118) hC ⟨dX5_farBlock_117, rfl⟩ (by omega) (by decide) ?_ | refine zk_lushr (pc' := 118) hC ⟨dX5_farBlock_117, rfl⟩ ?_
  first | refine zk_lsubN (pc' := 119) hC ⟨dX5_farBlock_118, rfl⟩ (by omega) ?_ | refine zk_lsub (pc' := 119) hC ⟨dX5_farBlock_118, rfl⟩ ?_
  rw [← hyd]
  refine zk_ls15 (pc' := 121) hC ⟨dX5_farBlock_119, rfl⟩ rfl ?_
  suffices h143 : zk_A 1 X E 143 [some (.ref (zk_ad X 0)), some (.int (nI pa)), some (.int (nI la)), some (.int (nI sl)), some (.int (nI i)), some (.long (lN nn)), none, some (.int (nI (4 * sc))), some (.int (nI fla)), some (.long (lN fin)), none, some (.long (lN u)), none, some (.long (lN xx)), none, some (.long (lN y)), none, none, none] [.long (lN fst)] I J by
    refine zk_iload_n (pc' := 122) hC rfl ⟨dX5_farBlock_121, rfl⟩ ?_
    refine zk_if_eqN (pc' := 125) hC ⟨dX5_farBlock_122, rfl⟩ 130 (by decide) (by omega) (fun q => ?_) (fun q => ?_)
    · refine zk_lconst (pc' := 131) (x := lN 0) hC ⟨dX5_farBlock_130, rfl⟩ rfl ?_
      refine zk_goto (pc' := 134) hC ⟨dX5_farBlock_131, rfl⟩ 143 (by decide) ?_
      rw [hfsd, if_pos (Or.inl q)] at h143
      exact h143
    · refine zk_iload_n (pc' := 126) hC rfl ⟨dX5_farBlock_125, rfl⟩ ?_
      refine zk_iconst (pc' := 127) (x := nI 3) hC ⟨dX5_farBlock_126, rfl⟩ zc_iconst_3 ?_
      refine zk_icmp_neN (pc' := 130) hC ⟨dX5_farBlock_127, rfl⟩ 134 (by decide) (by omega) (by omega) (fun q2 => ?_) (fun q2 => ?_)
      · refine zk_aload_n (pc' := 135) hC rfl ⟨dX5_farBlock_134, rfl⟩ ?_
        first | refine zk_getiN (pc' := 138) hC fl_X5_177 (by first | decide | assumption | omega) (by first | rfl | assumption) rfl (by first | assumption | (rw [zk_u_s]; rfl) | (rw [hI]; rfl)) ⟨dX5_farBlock_135, rfl⟩ ?_ | refine zk_geti (pc' := 138) hC fl_X5_177 (by first | decide | assumption | omega) (by first | rfl | assumption) rfl ⟨dX5_farBlock_135, rfl⟩ ?_
        refine zk_iload_n (pc' := 139) hC rfl ⟨dX5_farBlock_138, rfl⟩ ?_
        refine zk_iconst (pc' := 140) (x := nI 1) hC ⟨dX5_farBlock_139, rfl⟩ zc_iconst_1 ?_
        first | refine zk_iaddN (pc' := 141) hC ⟨dX5_farBlock_140, rfl⟩ ?_ | refine zk_iadd (pc' := 141) hC ⟨dX5_farBlock_140, rfl⟩ ?_
        first | refine zk_imulN (pc' := 142) hC ⟨dX5_farBlock_141, rfl⟩ ?_ | refine zk_imul (pc' := 142) hC ⟨dX5_farBlock_141, rfl⟩ ?_
        first | refine zk_i2lN (pc' := 143) hC ⟨dX5_farBlock_142, rfl⟩ (by omega) ?_ | refine zk_i2l (pc' := 143) hC ⟨dX5_farBlock_142, rfl⟩ ?_
        rw [hfsd, if_neg (by omega), Nat.mul_comm (sl + 1) sc] at h143
        exact h143
      · refine zk_lconst (pc' := 131) (x := lN 0) hC ⟨dX5_farBlock_130, rfl⟩ rfl ?_
        refine zk_goto (pc' := 134) hC ⟨dX5_farBlock_131, rfl⟩ 143 (by decide) ?_
        rw [hfsd, if_pos (Or.inr q2)] at h143
        exact h143
  have hylt : y ≤ 4 * sc := by omega
  rw [fl_wrap_mod (by omega), Nat.mul_comm fla (4 * sc)] at hR
  refine zk_ls17 (pc' := 145) hC ⟨dX5_farBlock_143, rfl⟩ rfl ?_
  refine zk_iload (pc' := 147) hC rfl ⟨dX5_farBlock_145, rfl⟩ ?_
  refine zk_iload (pc' := 149) hC rfl ⟨dX5_farBlock_147, rfl⟩ ?_
  first | refine zk_imulN (pc' := 150) hC ⟨dX5_farBlock_149, rfl⟩ ?_ | refine zk_imul (pc' := 150) hC ⟨dX5_farBlock_149, rfl⟩ ?_
  refine zk_lload (pc' := 152) hC rfl ⟨dX5_farBlock_150, rfl⟩ ?_
  refine zk_lload (pc' := 154) hC rfl ⟨dX5_farBlock_152, rfl⟩ ?_
  first | refine zk_laddN (pc' := 155) hC ⟨dX5_farBlock_154, rfl⟩ ?_ | refine zk_ladd (pc' := 155) hC ⟨dX5_farBlock_154, rfl⟩ ?_
  refine zk_iload (pc' := 157) hC rfl ⟨dX5_farBlock_155, rfl⟩ ?_
  first | refine zk_i2lN (pc' := 158) hC ⟨dX5_farBlock_157, rfl⟩ (by omega) ?_ | refine zk_i2l (pc' := 158) hC ⟨dX5_farBlock_157, rfl⟩ ?_
  refine zk_lremN (pc' := 159) hC ⟨dX5_farBlock_158, rfl⟩ (by omega) (by omega) (by omega) ?_
  first | refine zk_l2iN (pc' := 160) hC ⟨dX5_farBlock_159, rfl⟩ ?_ | refine zk_l2i (pc' := 160) hC ⟨dX5_farBlock_159, rfl⟩ ?_
  first | refine zk_iaddN (pc' := 161) hC ⟨dX5_farBlock_160, rfl⟩ ?_ | refine zk_iadd (pc' := 161) hC ⟨dX5_farBlock_160, rfl⟩ ?_
  exact zk_iret (pc' := 162) hC hR rfl rfl rfl ⟨dX5_farBlock_161, rfl⟩

/-- memory, near, far, mixed, address -/
abbrev md_T : Type := (Nat → Int64) × (Nat → Int64) × (Nat → Int64) × (Nat → Int64) × (Nat → Int64)
def md_5 (J : zk_J) (s : md_T) : zk_J := md_set4 (zk_u J 9 s.1) s.2.1 s.2.2.1 s.2.2.2.1 s.2.2.2.2
def md_of (J : zk_J) : md_T := (J 9, J 10, J 11, J 12, J 13)
theorem md_5_self (J : zk_J) : md_5 J (md_of J) = J := by
  unfold md_5 md_of
  dsimp only
  rw [zk_u_self, md4_self]
theorem md_5_9 {J : zk_J} {m n f x a : Nat → Int64} : md_5 J (m, n, f, x, a) 9 = m := by rw [md_5, md4_o (by decide)]; exact zk_u_s
theorem md_5_10 {J : zk_J} {m n f x a : Nat → Int64} : md_5 J (m, n, f, x, a) 10 = n := md4_10
theorem md_5_11 {J : zk_J} {m n f x a : Nat → Int64} : md_5 J (m, n, f, x, a) 11 = f := md4_11
theorem md_5_12 {J : zk_J} {m n f x a : Nat → Int64} : md_5 J (m, n, f, x, a) 12 = x := md4_12
theorem md_5_13 {J : zk_J} {m n f x a : Nat → Int64} : md_5 J (m, n, f, x, a) 13 = a := md4_13
theorem md_5_u9 {J : zk_J} {m n f x a y : Nat → Int64} : zk_u (md_5 J (m, n, f, x, a)) 9 y = md_5 J (y, n, f, x, a) := by
  funext k
  by_cases e : k = 9
  · subst e; simp [md_5, md_set4, zk_u]
  · simp [md_5, md_set4, zk_u, e]
theorem md_5_u10 {J : zk_J} {m n f x a y : Nat → Int64} : zk_u (md_5 J (m, n, f, x, a)) 10 y = md_5 J (m, y, f, x, a) := md4_u10
theorem md_5_u11 {J : zk_J} {m n f x a y : Nat → Int64} : zk_u (md_5 J (m, n, f, x, a)) 11 y = md_5 J (m, n, y, x, a) := md4_u11
theorem md_5_u12 {J : zk_J} {m n f x a y : Nat → Int64} : zk_u (md_5 J (m, n, f, x, a)) 12 y = md_5 J (m, n, f, y, a) := md4_u12
theorem md_4_4 {J : zk_J} {n f x a n' f' x' a' : Nat → Int64} : md_set4 (md_set4 J n f x a) n' f' x' a' = md_set4 J n' f' x' a' := by
  conv => lhs; unfold md_set4
  rw [show zk_u (zk_u (zk_u (zk_u J 10 n) 11 f) 12 x) 13 a = md_set4 J n f x a from rfl, md4_u10, md4_u11, md4_u12, md4_u13]
/-- the address block's making, on the rows -/
def md_mT (s : md_T) (pa la at' nb ps kd ct : Nat) : md_T :=
  (s.1, fz_fill s.2.1 (fun _ => lN 0) 128, fz_fill (md_af s.2.2.1 pa la at' nb ps kd ct) (md_jj (fz_fill s.2.1 (fun _ => lN 0) 128) (md_af s.2.2.1 pa la at' nb ps kd ct) s.2.2.2.1) 128,
    md_jj (fz_fill s.2.1 (fun _ => lN 0) 128) (fz_fill (md_af s.2.2.1 pa la at' nb ps kd ct) (md_jj (fz_fill s.2.1 (fun _ => lN 0) 128) (md_af s.2.2.1 pa la at' nb ps kd ct) s.2.2.2.1) 128) (md_jj (fz_fill s.2.1 (fun _ => lN 0) 128) (md_af s.2.2.1 pa la at' nb ps kd ct) s.2.2.2.1),
    fz_fill s.2.2.2.2 (md_jj (fz_fill s.2.1 (fun _ => lN 0) 128) (fz_fill (md_af s.2.2.1 pa la at' nb ps kd ct) (md_jj (fz_fill s.2.1 (fun _ => lN 0) 128) (md_af s.2.2.1 pa la at' nb ps kd ct) s.2.2.2.1) 128) (md_jj (fz_fill s.2.1 (fun _ => lN 0) 128) (md_af s.2.2.1 pa la at' nb ps kd ct) s.2.2.2.1)) 128)
theorem md_ma_5 {J : zk_J} {s : md_T} {pa la at' nb ps kd ct : Nat} : md_ma (md_5 J s) pa la at' nb ps kd ct = md_5 J (md_mT s pa la at' nb ps kd ct) := by
  obtain ⟨m, n, f, x, a⟩ := s
  unfold md_ma md_mT
  rw [md_5_10, md_5_11, md_5_12, md_5_13]
  unfold md_5
  dsimp only
  rw [md_4_4]
def md_adr (s : md_T) (kd ps nb pa sl la : Nat) : md_T := if fl_ba kd pa sl = 0 then s else md_mT s pa la sl nb ps kd 1
def md_num (s : md_T) (kd lb sb pa sl la i : Nat) : Int64 := if fl_ba kd pa sl = 0 then s.1 (128 * fl_bf lb la (sl * sb + i)) else s.2.2.2.2 (i % 128)
def md_mm (m x : Nat → Int64) (h pa n : Nat) : Nat → Int64 := fun q => if h ≤ q ∧ q < h + n then (if pa = 0 then x (q - h) else m q ^^^ x (q - h)) else m q
theorem md_mm_0 (m x : Nat → Int64) (h pa : Nat) : md_mm m x h pa 0 = m := by funext q; unfold md_mm; rw [if_neg (by omega)]
theorem md_mm_S (m x : Nat → Int64) (h pa n : Nat) {v : Int64} (hv : v = if pa = 0 then x n else m (h + n) ^^^ x n) : vp_updL (md_mm m x h pa n) (h + n) v = md_mm m x h pa (n + 1) := by
  subst hv
  funext q
  unfold vp_updL md_mm
  by_cases e : q = h + n
  · subst e; rw [if_pos rfl, if_pos (show h ≤ h + n ∧ h + n < h + (n + 1) by omega), show h + n - h = n by omega]
  · rw [if_neg e]
    by_cases h2 : h ≤ q ∧ q < h + n
    · rw [if_pos h2, if_pos (show h ≤ q ∧ q < h + (n + 1) by omega)]
    · rw [if_neg h2, if_neg (show ¬ (h ≤ q ∧ q < h + (n + 1)) by omega)]
theorem md_mm_at {m x : Nat → Int64} {h pa n : Nat} : md_mm m x h pa n (h + n) = m (h + n) := by unfold md_mm; rw [if_neg (by omega)]
/-- near and far are laid, joined, and the block is written -/
def md_w1 (s : md_T) (bf fr here pa : Nat) : md_T :=
  (md_mm s.1 (md_jj (fz_fill s.2.1 (fun k => s.1 (128 * bf + k)) 128) (fz_fill s.2.2.1 (fun k => s.1 (128 * fr + k)) 128) s.2.2.2.1) (128 * here) pa 128, fz_fill s.2.1 (fun k => s.1 (128 * bf + k)) 128, fz_fill s.2.2.1 (fun k => s.1 (128 * fr + k)) 128, md_jj (fz_fill s.2.1 (fun k => s.1 (128 * bf + k)) 128) (fz_fill s.2.2.1 (fun k => s.1 (128 * fr + k)) 128) s.2.2.2.1, s.2.2.2.2)
def md_step (s : md_T) (kd ln ps lb sb pa sl la i : Nat) : md_T :=
  md_w1 (md_adr s kd ps (lb * ln) pa sl la) (fl_bf lb la (sl * sb + i)) (fl_far ln lb sb pa sl la i (fl_nn (md_num (md_adr s kd ps (lb * ln) pa sl la) kd lb sb pa sl la i))) (la * lb + (sl * sb + i)) pa
def md_loop (s : md_T) (kd ln ps lb sb pa sl la : Nat) : Nat → md_T
  | 0 => s
  | t + 1 => md_step (md_loop s kd ln ps lb sb pa sl la t) kd ln ps lb sb pa sl la (fl_i0 pa sl + t)
def md_seg (s : md_T) (kd ln ps lb sb pa sl la : Nat) : md_T := md_loop s kd ln ps lb sb pa sl la (sb - fl_i0 pa sl)

set_option maxHeartbeats 1000000 in
set_option maxRecDepth 100000 in
theorem c_X5_segment (X : zk_X) (I : zk_I) (J : zk_J) {g0 : Nat → Int32} {th ks sz bg kd ln ps tg sc dn : Nat} (hI : I 0 = md_g g0 th ks sz bg kd ln ps tg sc dn) {pa sl la : Nat} (hw : fl_is kd ln ps tg (4 * sc) sc) (hpa : pa ≤ 4) (hsl : sl < 4) (hla : la < ln) : zk_M 1 X yX5_segment cX5_segment 12 none (6, 148) [.ref (zk_ad X 0), .int (nI pa), .int (nI sl), .int (nI la)] I J none I (md_5 J (md_seg (md_of J) kd ln ps (4 * sc) sc pa sl la)) := by
  unfold md_seg
  refine zk_M.intro (by decide) (lv := [some (.ref (zk_ad X 0)), some (.int (nI pa)), some (.int (nI sl)), some (.int (nI la)), none, none, none, none, none, none, none, none]) rfl rfl (fun E hC hR => ?_)
  obtain ⟨k1, k2, k3, k4, k5, k6, k7, k8, k9, k10⟩ := hw
  have hml : la * (4 * sc) + 4 * sc ≤ ln * (4 * sc) := by have := Nat.mul_le_mul_right (4 * sc) (show la + 1 ≤ ln from hla); rwa [Nat.add_mul, Nat.one_mul] at this
  have hsb : sl * sc ≤ 3 * sc := Nat.mul_le_mul_right sc (by omega)
  refine zk_iconst (pc' := 1) (x := nI 4) hC ⟨dX5_segment_0, rfl⟩ zc_iconst_4 ?_
  refine zk_aload_n (pc' := 2) hC rfl ⟨dX5_segment_1, rfl⟩ ?_
  first | refine zk_getiN (pc' := 5) hC fl_X5_177 (by first | decide | assumption | omega) (by first | rfl | assumption) rfl (by first | assumption | (rw [zk_u_s]; rfl) | (rw [hI]; rfl)) ⟨dX5_segment_2, rfl⟩ ?_ | refine zk_geti (pc' := 5) hC fl_X5_177 (by first | decide | assumption | omega) (by first | rfl | assumption) rfl ⟨dX5_segment_2, rfl⟩ ?_
  first | refine zk_imulN (pc' := 6) hC ⟨dX5_segment_5, rfl⟩ ?_ | refine zk_imul (pc' := 6) hC ⟨dX5_segment_5, rfl⟩ ?_
  refine zk_is4 (pc' := 8) hC ⟨dX5_segment_6, rfl⟩ rfl ?_
  suffices h38 : zk_A 1 X E 38 [some (.ref (zk_ad X 0)), some (.int (nI pa)), some (.int (nI sl)), some (.int (nI la)), some (.int (nI (4 * sc))), none, none, none, none, none, none, none] [.int (nI (fl_ba kd pa sl))] I J by
    refine zk_aload_n (pc' := 9) hC rfl ⟨dX5_segment_8, rfl⟩ ?_
    first | refine zk_getiN (pc' := 12) hC fl_X5_165 (by first | decide | assumption | omega) (by first | rfl | assumption) rfl (by first | assumption | (rw [zk_u_s]; rfl) | (rw [hI]; rfl)) ⟨dX5_segment_9, rfl⟩ ?_ | refine zk_geti (pc' := 12) hC fl_X5_165 (by first | decide | assumption | omega) (by first | rfl | assumption) rfl ⟨dX5_segment_9, rfl⟩ ?_
    refine zk_iconst (pc' := 13) (x := nI 1) hC ⟨dX5_segment_12, rfl⟩ zc_iconst_1 ?_
    refine zk_icmp_eqN (pc' := 16) hC ⟨dX5_segment_13, rfl⟩ 33 (by decide) (by omega) (by omega) (fun q => ?_) (fun q => ?_)
    · rw [fl_ba, if_pos (by omega)] at h38
      refine zk_iconst (pc' := 34) (x := nI 1) hC ⟨dX5_segment_33, rfl⟩ zc_iconst_1 ?_
      refine zk_goto (pc' := 37) hC ⟨dX5_segment_34, rfl⟩ 38 (by decide) ?_
      exact h38
    · refine zk_aload_n (pc' := 17) hC rfl ⟨dX5_segment_16, rfl⟩ ?_
      first | refine zk_getiN (pc' := 20) hC fl_X5_165 (by first | decide | assumption | omega) (by first | rfl | assumption) rfl (by first | assumption | (rw [zk_u_s]; rfl) | (rw [hI]; rfl)) ⟨dX5_segment_17, rfl⟩ ?_ | refine zk_geti (pc' := 20) hC fl_X5_165 (by first | decide | assumption | omega) (by first | rfl | assumption) rfl ⟨dX5_segment_17, rfl⟩ ?_
      refine zk_iconst (pc' := 21) (x := nI 2) hC ⟨dX5_segment_20, rfl⟩ zc_iconst_2 ?_
      refine zk_icmp_neN (pc' := 24) hC ⟨dX5_segment_21, rfl⟩ 37 (by decide) (by omega) (by omega) (fun q2 => ?_) (fun q2 => ?_)
      · rw [fl_ba, if_neg (by omega)] at h38
        refine zk_iconst (pc' := 38) (x := nI 0) hC ⟨dX5_segment_37, rfl⟩ zc_iconst_0 ?_
        exact h38
      · refine zk_iload_n (pc' := 25) hC rfl ⟨dX5_segment_24, rfl⟩ ?_
        refine zk_if_neN (pc' := 28) hC ⟨dX5_segment_25, rfl⟩ 37 (by decide) (by omega) (fun q3 => ?_) (fun q3 => ?_)
        · rw [fl_ba, if_neg (by omega)] at h38
          refine zk_iconst (pc' := 38) (x := nI 0) hC ⟨dX5_segment_37, rfl⟩ zc_iconst_0 ?_
          exact h38
        · refine zk_iload_n (pc' := 29) hC rfl ⟨dX5_segment_28, rfl⟩ ?_
          refine zk_iconst (pc' := 30) (x := nI 2) hC ⟨dX5_segment_29, rfl⟩ zc_iconst_2 ?_
          refine zk_icmp_geN (pc' := 33) hC ⟨dX5_segment_30, rfl⟩ 37 (by decide) (by omega) (by omega) (fun q4 => ?_) (fun q4 => ?_)
          · rw [fl_ba, if_neg (by omega)] at h38
            refine zk_iconst (pc' := 38) (x := nI 0) hC ⟨dX5_segment_37, rfl⟩ zc_iconst_0 ?_
            exact h38
          · rw [fl_ba, if_pos (by omega)] at h38
            refine zk_iconst (pc' := 34) (x := nI 1) hC ⟨dX5_segment_33, rfl⟩ zc_iconst_1 ?_
            refine zk_goto (pc' := 37) hC ⟨dX5_segment_34, rfl⟩ 38 (by decide) ?_
            exact h38
  have hba : fl_ba kd pa sl < 2 := by unfold fl_ba; split <;> omega
  refine zk_is5 (pc' := 40) hC ⟨dX5_segment_38, rfl⟩ rfl ?_
  suffices h53 : zk_A 1 X E 53 [some (.ref (zk_ad X 0)), some (.int (nI pa)), some (.int (nI sl)), some (.int (nI la)), some (.int (nI (4 * sc))), some (.int (nI (fl_ba kd pa sl))), none, none, none, none, none, none] [.int (nI (fl_i0 pa sl))] I J by
    refine zk_iload_n (pc' := 41) hC rfl ⟨dX5_segment_40, rfl⟩ ?_
    refine zk_if_neN (pc' := 44) hC ⟨dX5_segment_41, rfl⟩ 52 (by decide) (by omega) (fun q => ?_) (fun q => ?_)
    · rw [fl_i0, if_neg (by omega)] at h53
      refine zk_iconst (pc' := 53) (x := nI 0) hC ⟨dX5_segment_52, rfl⟩ zc_iconst_0 ?_
      exact h53
    · refine zk_iload_n (pc' := 45) hC rfl ⟨dX5_segment_44, rfl⟩ ?_
      refine zk_if_neN (pc' := 48) hC ⟨dX5_segment_45, rfl⟩ 52 (by decide) (by omega) (fun q2 => ?_) (fun q2 => ?_)
      · rw [fl_i0, if_neg (by omega)] at h53
        refine zk_iconst (pc' := 53) (x := nI 0) hC ⟨dX5_segment_52, rfl⟩ zc_iconst_0 ?_
        exact h53
      · rw [fl_i0, if_pos ⟨q, q2⟩] at h53
        refine zk_iconst (pc' := 49) (x := nI 2) hC ⟨dX5_segment_48, rfl⟩ zc_iconst_2 ?_
        refine zk_goto (pc' := 52) hC ⟨dX5_segment_49, rfl⟩ 53 (by decide) ?_
        exact h53
  have hi0 : fl_i0 pa sl ≤ 2 ∧ (pa = 0 ∧ sl = 0 → 2 ≤ fl_i0 pa sl) := by unfold fl_i0; split <;> omega
  refine zk_is6 (pc' := 55) hC ⟨dX5_segment_53, rfl⟩ rfl ?_
  refine zk_eqJ (J' := md_5 J (md_of J)) (md_5_self J).symm ?_
  generalize md_of J = s0 at hR ⊢
  refine zk_up (P := fun t => zk_A 1 X E 55 [some (.ref (zk_ad X 0)), some (.int (nI pa)), some (.int (nI sl)), some (.int (nI la)), some (.int (nI (4 * sc))), some (.int (nI (fl_ba kd pa sl))), some (.int (nI (fl_i0 pa sl + t))), none, none, none, none, none] [] I (md_5 J (md_loop s0 kd ln ps (4 * sc) sc pa sl la t))) (sc - fl_i0 pa sl) ?_ (fun t ht ih => ?_)
  · skip
    refine zk_iload (pc' := 57) hC rfl ⟨dX5_segment_55, rfl⟩ ?_
    refine zk_aload_n (pc' := 58) hC rfl ⟨dX5_segment_57, rfl⟩ ?_
    first | refine zk_getiN (pc' := 61) hC fl_X5_177 (by first | decide | assumption | omega) (by first | rfl | assumption) rfl (by first | assumption | (rw [zk_u_s]; rfl) | (rw [hI]; rfl)) ⟨dX5_segment_58, rfl⟩ ?_ | refine zk_geti (pc' := 61) hC fl_X5_177 (by first | decide | assumption | omega) (by first | rfl | assumption) rfl ⟨dX5_segment_58, rfl⟩ ?_
    refine zk_icmp_geN (pc' := 64) hC ⟨dX5_segment_61, rfl⟩ 300 (by decide) (by omega) (by omega) (fun q => ?_) (fun q => ?_)
    · exact zk_vret (pc' := 301) hC hR rfl rfl rfl ⟨dX5_segment_300, rfl⟩
    · omega
  · skip
    revert ih
    show zk_A 1 X E 55 [some (.ref (zk_ad X 0)), some (.int (nI pa)), some (.int (nI sl)), some (.int (nI la)), some (.int (nI (4 * sc))), some (.int (nI (fl_ba kd pa sl))), some (.int (nI (fl_i0 pa sl + t + 1))), none, none, none, none, none] [] I (md_5 J (md_step (md_loop s0 kd ln ps (4 * sc) sc pa sl la t) kd ln ps (4 * sc) sc pa sl la (fl_i0 pa sl + t))) → _
    generalize md_loop s0 kd ln ps (4 * sc) sc pa sl la t = s
    have hil : fl_i0 pa sl + t < sc := by omega
    have hi2 : pa = 0 ∧ sl = 0 → 2 ≤ fl_i0 pa sl + t := fun e => by have := hi0.2 e; omega
    generalize fl_i0 pa sl + t = i at hil hi2 ⊢
    intro ih
    have hok : fl_ok ln (4 * sc) sc pa sl la i := ⟨k2, k3, rfl, k8, k9, hla, hsl, hpa, hil, hi2, k10⟩
    unfold md_step at ih
    refine zk_iload (pc' := 57) hC rfl ⟨dX5_segment_55, rfl⟩ ?_
    refine zk_aload_n (pc' := 58) hC rfl ⟨dX5_segment_57, rfl⟩ ?_
    first | refine zk_getiN (pc' := 61) hC fl_X5_177 (by first | decide | assumption | omega) (by first | rfl | assumption) rfl (by first | assumption | (rw [zk_u_s]; rfl) | (rw [hI]; rfl)) ⟨dX5_segment_58, rfl⟩ ?_ | refine zk_geti (pc' := 61) hC fl_X5_177 (by first | decide | assumption | omega) (by first | rfl | assumption) rfl ⟨dX5_segment_58, rfl⟩ ?_
    refine zk_icmp_geN (pc' := 64) hC ⟨dX5_segment_61, rfl⟩ 300 (by decide) (by omega) (by omega) (fun q => ?_) (fun q => ?_)
    · omega
    · refine zk_aload_n (pc' := 65) hC rfl ⟨dX5_segment_64, rfl⟩ ?_
      first | refine zk_getiN (pc' := 68) hC fl_X5_177 (by first | decide | assumption | omega) (by first | rfl | assumption) rfl (by first | assumption | (rw [zk_u_s]; rfl) | (rw [hI]; rfl)) ⟨dX5_segment_65, rfl⟩ ?_ | refine zk_geti (pc' := 68) hC fl_X5_177 (by first | decide | assumption | omega) (by first | rfl | assumption) rfl ⟨dX5_segment_65, rfl⟩ ?_
      refine zk_iload_n (pc' := 69) hC rfl ⟨dX5_segment_68, rfl⟩ ?_
      first | refine zk_imulN (pc' := 70) hC ⟨dX5_segment_69, rfl⟩ ?_ | refine zk_imul (pc' := 70) hC ⟨dX5_segment_69, rfl⟩ ?_
      refine zk_iload (pc' := 72) hC rfl ⟨dX5_segment_70, rfl⟩ ?_
      rw [Nat.mul_comm sc sl]
      first | refine zk_iaddN (pc' := 73) hC ⟨dX5_segment_72, rfl⟩ ?_ | refine zk_iadd (pc' := 73) hC ⟨dX5_segment_72, rfl⟩ ?_
      refine zk_is7 (pc' := 75) hC ⟨dX5_segment_73, rfl⟩ rfl ?_
      generalize hj : sl * sc + i = j at ih ⊢
      have hjl : j < 4 * sc := by omega
      have hbfl : fl_bf (4 * sc) la j < ln * (4 * sc) := by unfold fl_bf; split <;> omega
      suffices h96 : zk_A 1 X E 96 [some (.ref (zk_ad X 0)), some (.int (nI pa)), some (.int (nI sl)), some (.int (nI la)), some (.int (nI (4 * sc))), some (.int (nI (fl_ba kd pa sl))), some (.int (nI i)), some (.int (nI j)), none, none, none, none] [.int (nI (fl_bf (4 * sc) la j))] I (md_5 J s) by
        refine zk_iload (pc' := 77) hC rfl ⟨dX5_segment_75, rfl⟩ ?_
        refine zk_iload_n (pc' := 78) hC rfl ⟨dX5_segment_77, rfl⟩ ?_
        first | refine zk_imulN (pc' := 79) hC ⟨dX5_segment_78, rfl⟩ ?_ | refine zk_imul (pc' := 79) hC ⟨dX5_segment_78, rfl⟩ ?_
        refine zk_iload (pc' := 81) hC rfl ⟨dX5_segment_79, rfl⟩ ?_
        refine zk_if_neN (pc' := 84) hC ⟨dX5_segment_81, rfl⟩ 91 (by decide) (by omega) (fun q2 => ?_) (fun q2 => ?_)
        · refine zk_iload (pc' := 93) hC rfl ⟨dX5_segment_91, rfl⟩ ?_
          refine zk_iconst (pc' := 94) (x := nI 1) hC ⟨dX5_segment_93, rfl⟩ zc_iconst_1 ?_
          first | refine zk_isubN (pc' := 95) hC ⟨dX5_segment_94, rfl⟩ (by omega) ?_ | refine zk_isub (pc' := 95) hC ⟨dX5_segment_94, rfl⟩ ?_
          first | refine zk_iaddN (pc' := 96) hC ⟨dX5_segment_95, rfl⟩ ?_ | refine zk_iadd (pc' := 96) hC ⟨dX5_segment_95, rfl⟩ ?_
          rw [show 4 * sc * la + (j - 1) = fl_bf (4 * sc) la j by unfold fl_bf; rw [if_neg q2, Nat.mul_comm la (4 * sc)]; omega]
          exact h96
        · refine zk_iload (pc' := 86) hC rfl ⟨dX5_segment_84, rfl⟩ ?_
          refine zk_iconst (pc' := 87) (x := nI 1) hC ⟨dX5_segment_86, rfl⟩ zc_iconst_1 ?_
          first | refine zk_isubN (pc' := 88) hC ⟨dX5_segment_87, rfl⟩ (by omega) ?_ | refine zk_isub (pc' := 88) hC ⟨dX5_segment_87, rfl⟩ ?_
          refine zk_goto (pc' := 91) hC ⟨dX5_segment_88, rfl⟩ 95 (by decide) ?_
          first | refine zk_iaddN (pc' := 96) hC ⟨dX5_segment_95, rfl⟩ ?_ | refine zk_iadd (pc' := 96) hC ⟨dX5_segment_95, rfl⟩ ?_
          rw [show 4 * sc * la + (4 * sc - 1) = fl_bf (4 * sc) la j by unfold fl_bf; rw [if_pos q2, Nat.mul_comm la (4 * sc)]; omega]
          exact h96
      refine zk_is8 (pc' := 98) hC ⟨dX5_segment_96, rfl⟩ rfl ?_
      suffices h118 : zk_A 1 X E 118 [some (.ref (zk_ad X 0)), some (.int (nI pa)), some (.int (nI sl)), some (.int (nI la)), some (.int (nI (4 * sc))), some (.int (nI (fl_ba kd pa sl))), some (.int (nI i)), some (.int (nI j)), some (.int (nI (fl_bf (4 * sc) la j))), none, none, none] [] I (md_5 J (md_adr s kd ps (4 * sc * ln) pa sl la)) by
        refine zk_iload (pc' := 100) hC rfl ⟨dX5_segment_98, rfl⟩ ?_
        refine zk_if_eqN (pc' := 103) hC ⟨dX5_segment_100, rfl⟩ 118 (by decide) (by omega) (fun q2 => ?_) (fun q2 => ?_)
        · rw [md_adr, if_pos q2] at h118
          exact h118
        · rw [md_adr, if_neg q2] at h118
          refine zk_aload_n (pc' := 104) hC rfl ⟨dX5_segment_103, rfl⟩ ?_
          refine zk_iload_n (pc' := 105) hC rfl ⟨dX5_segment_104, rfl⟩ ?_
          refine zk_iload_n (pc' := 106) hC rfl ⟨dX5_segment_105, rfl⟩ ?_
          refine zk_iload_n (pc' := 107) hC rfl ⟨dX5_segment_106, rfl⟩ ?_
          refine zk_iconst (pc' := 108) (x := nI 1) hC ⟨dX5_segment_107, rfl⟩ zc_iconst_1 ?_
          refine zk_iload (pc' := 110) hC rfl ⟨dX5_segment_108, rfl⟩ ?_
          refine zk_sipush (pc' := 113) (x := nI 128) hC ⟨dX5_segment_110, rfl⟩ zc_sipush_128 ?_
          first | refine zk_idivN (pc' := 114) hC ⟨dX5_segment_113, rfl⟩ (by omega) (by omega) (by omega) ?_ | refine zk_idiv (pc' := 114) hC ⟨dX5_segment_113, rfl⟩ (by first | assumption | decide) ?_
          first | refine zk_iaddN (pc' := 115) hC ⟨dX5_segment_114, rfl⟩ ?_ | refine zk_iadd (pc' := 115) hC ⟨dX5_segment_114, rfl⟩ ?_
          rw [show 1 + i / 128 = 1 by omega]
          refine zk_callV0 (pc' := 118) hC ml_X5_217 mi_X5_makeAddress (c_X5_makeAddress X I _ hI (pa := pa) (la := la) (ta := sl) (ct := 1) (by omega) (by omega) (by omega) (by decide) k9 k3 k5 k1) (by decide) (by first | decide | assumption | omega) (by first | rfl | assumption) rfl rfl rfl (Nat.le_of_ble_eq_true rfl) ⟨dX5_segment_115, rfl⟩ ?_
          rw [md_ma_5]
          exact h118
      have hnum : md_num (md_adr s kd ps (4 * sc * ln) pa sl la) kd (4 * sc) sc pa sl la i = if fl_ba kd pa sl = 0 then (md_adr s kd ps (4 * sc * ln) pa sl la).1 (128 * fl_bf (4 * sc) la j) else (md_adr s kd ps (4 * sc * ln) pa sl la).2.2.2.2 (i % 128) := by rw [md_num, hj]
      generalize md_adr s kd ps (4 * sc * ln) pa sl la = s1 at ih hnum ⊢
      obtain ⟨mem, n, f, x, a⟩ := s1
      dsimp only at hnum ⊢
      generalize md_num (mem, n, f, x, a) kd (4 * sc) sc pa sl la i = num at ih hnum
      suffices h154 : zk_A 1 X E 154 [some (.ref (zk_ad X 0)), some (.int (nI pa)), some (.int (nI sl)), some (.int (nI la)), some (.int (nI (4 * sc))), some (.int (nI (fl_ba kd pa sl))), some (.int (nI i)), some (.int (nI j)), some (.int (nI (fl_bf (4 * sc) la j))), none, none, none] [.long num, .int (nI i), .int (nI sl), .int (nI la), .int (nI pa), .ref (zk_ad X 0)] I (md_5 J (mem, n, f, x, a)) by
        refine zk_aload_n (pc' := 119) hC rfl ⟨dX5_segment_118, rfl⟩ ?_
        refine zk_iload_n (pc' := 120) hC rfl ⟨dX5_segment_119, rfl⟩ ?_
        refine zk_iload_n (pc' := 121) hC rfl ⟨dX5_segment_120, rfl⟩ ?_
        refine zk_iload_n (pc' := 122) hC rfl ⟨dX5_segment_121, rfl⟩ ?_
        refine zk_iload (pc' := 124) hC rfl ⟨dX5_segment_122, rfl⟩ ?_
        refine zk_iload (pc' := 126) hC rfl ⟨dX5_segment_124, rfl⟩ ?_
        refine zk_if_eqN (pc' := 129) hC ⟨dX5_segment_126, rfl⟩ 143 (by decide) (by omega) (fun q2 => ?_) (fun q2 => ?_)
        · refine zk_aload_n (pc' := 144) hC rfl ⟨dX5_segment_143, rfl⟩ ?_
          refine zk_getr (pc' := 147) hC fl_X5_35 (by first | decide | assumption | omega) (by first | rfl | assumption) rfl ⟨dX5_segment_144, rfl⟩ ?_
          refine zk_sipush (pc' := 150) (x := nI 128) hC ⟨dX5_segment_147, rfl⟩ zc_sipush_128 ?_
          refine zk_iload (pc' := 152) hC rfl ⟨dX5_segment_150, rfl⟩ ?_
          first | refine zk_imulN (pc' := 153) hC ⟨dX5_segment_152, rfl⟩ ?_ | refine zk_imul (pc' := 153) hC ⟨dX5_segment_152, rfl⟩ ?_
          first | refine zk_laldN (pc' := 154) hC (by first | decide | assumption | omega) (by first | rfl | assumption) (by omega) (by first | decide | omega) ⟨dX5_segment_153, rfl⟩ ?_ | refine zk_t1N (pc' := 154) hC (by omega) ⟨dX5_segment_153, rfl⟩ ?_
          rw [md_5_9]
          rw [hnum, if_pos q2] at h154
          exact h154
        · refine zk_aload_n (pc' := 130) hC rfl ⟨dX5_segment_129, rfl⟩ ?_
          refine zk_getr (pc' := 133) hC fl_X5_47 (by first | decide | assumption | omega) (by first | rfl | assumption) rfl ⟨dX5_segment_130, rfl⟩ ?_
          refine zk_iload (pc' := 135) hC rfl ⟨dX5_segment_133, rfl⟩ ?_
          refine zk_sipush (pc' := 138) (x := nI 128) hC ⟨dX5_segment_135, rfl⟩ zc_sipush_128 ?_
          first | refine zk_iremN (pc' := 139) hC ⟨dX5_segment_138, rfl⟩ (by omega) (by omega) (by omega) ?_ | refine zk_irem (pc' := 139) hC ⟨dX5_segment_138, rfl⟩ (by first | assumption | decide) ?_
          first | refine zk_laldN (pc' := 140) hC (by first | decide | assumption | omega) (by first | rfl | assumption) (by omega) (by first | decide | omega) ⟨dX5_segment_139, rfl⟩ ?_ | refine zk_t1N (pc' := 140) hC (by omega) ⟨dX5_segment_139, rfl⟩ ?_
          rw [md_5_13]
          refine zk_goto (pc' := 143) hC ⟨dX5_segment_140, rfl⟩ 154 (by decide) ?_
          rw [hnum, if_neg q2] at h154
          exact h154
      have hfar := fl_far_lt (fl_nn num) hok
      refine zk_callV1 (pc' := 157) hC ml_X5_220 mi_X5_farBlock (c_X5_farBlock X I _ hI num hok) (by decide) (by first | decide | assumption | omega) (by first | rfl | assumption) rfl rfl rfl (Nat.le_of_ble_eq_true rfl) ⟨dX5_segment_154, rfl⟩ ?_
      generalize fl_far ln (4 * sc) sc pa sl la i (fl_nn num) = fr at ih hfar ⊢
      generalize fl_bf (4 * sc) la j = bf at hbfl ih ⊢
      refine zk_is9 (pc' := 159) hC ⟨dX5_segment_157, rfl⟩ rfl ?_
      refine zk_iconst (pc' := 160) (x := nI 0) hC ⟨dX5_segment_159, rfl⟩ zc_iconst_0 ?_
      refine zk_is10 (pc' := 162) hC ⟨dX5_segment_160, rfl⟩ rfl ?_
      refine zk_eqJ (J' := md_5 J (mem, fz_fill n (fun k => mem (128 * bf + k)) 0, fz_fill f (fun k => mem (128 * fr + k)) 0, x, a)) (by rw [fz_0, fz_0]) ?_
      refine zk_up (P := fun k => zk_A 1 X E 162 [some (.ref (zk_ad X 0)), some (.int (nI pa)), some (.int (nI sl)), some (.int (nI la)), some (.int (nI (4 * sc))), some (.int (nI (fl_ba kd pa sl))), some (.int (nI i)), some (.int (nI j)), some (.int (nI bf)), some (.int (nI fr)), some (.int (nI k)), none] [] I (md_5 J (mem, fz_fill n (fun k => mem (128 * bf + k)) k, fz_fill f (fun k => mem (128 * fr + k)) k, x, a))) 128 ?_ (fun k hk ihk => ?_)
      · skip
        refine zk_iload (pc' := 164) hC rfl ⟨dX5_segment_162, rfl⟩ ?_
        refine zk_sipush (pc' := 167) (x := nI 128) hC ⟨dX5_segment_164, rfl⟩ zc_sipush_128 ?_
        refine zk_icmp_geN (pc' := 170) hC ⟨dX5_segment_167, rfl⟩ 218 (by decide) (by omega) (by omega) (fun q5 => ?_) (fun q5 => ?_)
        · unfold md_w1 at ih
          dsimp only at ih
          generalize fz_fill n (fun k => mem (128 * bf + k)) 128 = n1 at ih ⊢
          generalize fz_fill f (fun k => mem (128 * fr + k)) 128 = f1 at ih ⊢
          refine zk_aload_n (pc' := 219) hC rfl ⟨dX5_segment_218, rfl⟩ ?_
          refine zk_callV0 (pc' := 222) hC ml_X5_214 mi_X5_join (c_X5_join X I _) (by decide) (by first | decide | assumption | omega) (by first | rfl | assumption) rfl rfl rfl (Nat.le_of_ble_eq_true rfl) ⟨dX5_segment_219, rfl⟩ ?_
          rw [md_j_eq, md_5_10, md_5_11, md_5_12, md_5_u12]
          generalize md_jj n1 f1 x = x1 at ih ⊢
          refine zk_sipush (pc' := 225) (x := nI 128) hC ⟨dX5_segment_222, rfl⟩ zc_sipush_128 ?_
          refine zk_iload (pc' := 227) hC rfl ⟨dX5_segment_225, rfl⟩ ?_
          refine zk_iload_n (pc' := 228) hC rfl ⟨dX5_segment_227, rfl⟩ ?_
          first | refine zk_imulN (pc' := 229) hC ⟨dX5_segment_228, rfl⟩ ?_ | refine zk_imul (pc' := 229) hC ⟨dX5_segment_228, rfl⟩ ?_
          refine zk_iload (pc' := 231) hC rfl ⟨dX5_segment_229, rfl⟩ ?_
          first | refine zk_iaddN (pc' := 232) hC ⟨dX5_segment_231, rfl⟩ ?_ | refine zk_iadd (pc' := 232) hC ⟨dX5_segment_231, rfl⟩ ?_
          first | refine zk_imulN (pc' := 233) hC ⟨dX5_segment_232, rfl⟩ ?_ | refine zk_imul (pc' := 233) hC ⟨dX5_segment_232, rfl⟩ ?_
          rw [Nat.mul_comm (4 * sc) la]
          have hhere : la * (4 * sc) + j < 128 := by omega
          generalize la * (4 * sc) + j = here at ih hhere ⊢
          refine zk_is10 (pc' := 235) hC ⟨dX5_segment_233, rfl⟩ rfl ?_
          refine zk_iconst (pc' := 236) (x := nI 0) hC ⟨dX5_segment_235, rfl⟩ zc_iconst_0 ?_
          refine zk_is11 (pc' := 238) hC ⟨dX5_segment_236, rfl⟩ rfl ?_
          refine zk_eqJ (J' := md_5 J (md_mm mem x1 (128 * here) pa 0, n1, f1, x1, a)) (by rw [md_mm_0]) ?_
          refine zk_up (P := fun k => zk_A 1 X E 238 [some (.ref (zk_ad X 0)), some (.int (nI pa)), some (.int (nI sl)), some (.int (nI la)), some (.int (nI (4 * sc))), some (.int (nI (fl_ba kd pa sl))), some (.int (nI i)), some (.int (nI j)), some (.int (nI bf)), some (.int (nI fr)), some (.int (nI (128 * here))), some (.int (nI k))] [] I (md_5 J (md_mm mem x1 (128 * here) pa k, n1, f1, x1, a))) 128 ?_ (fun k hk ihk => ?_)
          · skip
            refine zk_iload (pc' := 240) hC rfl ⟨dX5_segment_238, rfl⟩ ?_
            refine zk_sipush (pc' := 243) (x := nI 128) hC ⟨dX5_segment_240, rfl⟩ zc_sipush_128 ?_
            refine zk_icmp_geN (pc' := 246) hC ⟨dX5_segment_243, rfl⟩ 294 (by decide) (by omega) (by omega) (fun q6 => ?_) (fun q6 => ?_)
            · refine zk_fg7 ?_
              refine zk_fg8 ?_
              refine zk_fg9 ?_
              refine zk_fg10 ?_
              refine zk_fg11 ?_
              first | refine zk_in6 (pc' := 297) hC ⟨dX5_segment_294, rfl⟩ ?_ | refine zk_iincG (pc' := 297) hC ⟨dX5_segment_294, rfl⟩ rfl ?_
              refine zk_goto (pc' := 300) hC ⟨dX5_segment_297, rfl⟩ 55 (by decide) ?_
              exact ih
            · omega
          · skip
            refine zk_iload (pc' := 240) hC rfl ⟨dX5_segment_238, rfl⟩ ?_
            refine zk_sipush (pc' := 243) (x := nI 128) hC ⟨dX5_segment_240, rfl⟩ zc_sipush_128 ?_
            refine zk_icmp_geN (pc' := 246) hC ⟨dX5_segment_243, rfl⟩ 294 (by decide) (by omega) (by omega) (fun q6 => ?_) (fun q6 => ?_)
            · omega
            · refine zk_aload_n (pc' := 247) hC rfl ⟨dX5_segment_246, rfl⟩ ?_
              refine zk_getr (pc' := 250) hC fl_X5_35 (by first | decide | assumption | omega) (by first | rfl | assumption) rfl ⟨dX5_segment_247, rfl⟩ ?_
              refine zk_iload (pc' := 252) hC rfl ⟨dX5_segment_250, rfl⟩ ?_
              refine zk_iload (pc' := 254) hC rfl ⟨dX5_segment_252, rfl⟩ ?_
              first | refine zk_iaddN (pc' := 255) hC ⟨dX5_segment_254, rfl⟩ ?_ | refine zk_iadd (pc' := 255) hC ⟨dX5_segment_254, rfl⟩ ?_
              refine zk_iload_n (pc' := 256) hC rfl ⟨dX5_segment_255, rfl⟩ ?_
              refine zk_if_neN (pc' := 259) hC ⟨dX5_segment_256, rfl⟩ 269 (by decide) (by omega) (fun q7 => ?_) (fun q7 => ?_)
              · refine zk_aload_n (pc' := 270) hC rfl ⟨dX5_segment_269, rfl⟩ ?_
                refine zk_getr (pc' := 273) hC fl_X5_35 (by first | decide | assumption | omega) (by first | rfl | assumption) rfl ⟨dX5_segment_270, rfl⟩ ?_
                refine zk_iload (pc' := 275) hC rfl ⟨dX5_segment_273, rfl⟩ ?_
                refine zk_iload (pc' := 277) hC rfl ⟨dX5_segment_275, rfl⟩ ?_
                first | refine zk_iaddN (pc' := 278) hC ⟨dX5_segment_277, rfl⟩ ?_ | refine zk_iadd (pc' := 278) hC ⟨dX5_segment_277, rfl⟩ ?_
                first | refine zk_laldN (pc' := 279) hC (by first | decide | assumption | omega) (by first | rfl | assumption) (by omega) (by first | decide | omega) ⟨dX5_segment_278, rfl⟩ ?_ | refine zk_t1N (pc' := 279) hC (by omega) ⟨dX5_segment_278, rfl⟩ ?_
                rw [md_5_9, md_mm_at]
                refine zk_aload_n (pc' := 280) hC rfl ⟨dX5_segment_279, rfl⟩ ?_
                refine zk_getr (pc' := 283) hC fl_X5_44 (by first | decide | assumption | omega) (by first | rfl | assumption) rfl ⟨dX5_segment_280, rfl⟩ ?_
                refine zk_iload (pc' := 285) hC rfl ⟨dX5_segment_283, rfl⟩ ?_
                first | refine zk_laldN (pc' := 286) hC (by first | decide | assumption | omega) (by first | rfl | assumption) (by omega) (by first | decide | omega) ⟨dX5_segment_285, rfl⟩ ?_ | refine zk_t1N (pc' := 286) hC (by omega) ⟨dX5_segment_285, rfl⟩ ?_
                rw [md_5_12]
                refine zk_lxor (pc' := 287) hC ⟨dX5_segment_286, rfl⟩ ?_
                first | refine zk_lastN (pc' := 288) hC (by first | decide | assumption | omega) (by first | rfl | assumption) (by omega) (by first | decide | omega) ⟨dX5_segment_287, rfl⟩ ?_
                rw [md_5_9, md_5_u9, md_mm_S _ _ _ _ k (by rw [if_neg q7])]
                first | refine zk_in11 (pc' := 291) hC ⟨dX5_segment_288, rfl⟩ ?_ | refine zk_iincG (pc' := 291) hC ⟨dX5_segment_288, rfl⟩ rfl ?_
                refine zk_goto (pc' := 294) hC ⟨dX5_segment_291, rfl⟩ 238 (by decide) ?_
                exact ihk
              · refine zk_aload_n (pc' := 260) hC rfl ⟨dX5_segment_259, rfl⟩ ?_
                refine zk_getr (pc' := 263) hC fl_X5_44 (by first | decide | assumption | omega) (by first | rfl | assumption) rfl ⟨dX5_segment_260, rfl⟩ ?_
                refine zk_iload (pc' := 265) hC rfl ⟨dX5_segment_263, rfl⟩ ?_
                first | refine zk_laldN (pc' := 266) hC (by first | decide | assumption | omega) (by first | rfl | assumption) (by omega) (by first | decide | omega) ⟨dX5_segment_265, rfl⟩ ?_ | refine zk_t1N (pc' := 266) hC (by omega) ⟨dX5_segment_265, rfl⟩ ?_
                rw [md_5_12]
                refine zk_goto (pc' := 269) hC ⟨dX5_segment_266, rfl⟩ 287 (by decide) ?_
                first | refine zk_lastN (pc' := 288) hC (by first | decide | assumption | omega) (by first | rfl | assumption) (by omega) (by first | decide | omega) ⟨dX5_segment_287, rfl⟩ ?_
                rw [md_5_9, md_5_u9, md_mm_S _ _ _ _ k (by rw [if_pos q7])]
                first | refine zk_in11 (pc' := 291) hC ⟨dX5_segment_288, rfl⟩ ?_ | refine zk_iincG (pc' := 291) hC ⟨dX5_segment_288, rfl⟩ rfl ?_
                refine zk_goto (pc' := 294) hC ⟨dX5_segment_291, rfl⟩ 238 (by decide) ?_
                exact ihk
        · omega
      · skip
        refine zk_iload (pc' := 164) hC rfl ⟨dX5_segment_162, rfl⟩ ?_
        refine zk_sipush (pc' := 167) (x := nI 128) hC ⟨dX5_segment_164, rfl⟩ zc_sipush_128 ?_
        refine zk_icmp_geN (pc' := 170) hC ⟨dX5_segment_167, rfl⟩ 218 (by decide) (by omega) (by omega) (fun q5 => ?_) (fun q5 => ?_)
        · omega
        · refine zk_aload_n (pc' := 171) hC rfl ⟨dX5_segment_170, rfl⟩ ?_
          refine zk_getr (pc' := 174) hC fl_X5_38 (by first | decide | assumption | omega) (by first | rfl | assumption) rfl ⟨dX5_segment_171, rfl⟩ ?_
          refine zk_iload (pc' := 176) hC rfl ⟨dX5_segment_174, rfl⟩ ?_
          refine zk_aload_n (pc' := 177) hC rfl ⟨dX5_segment_176, rfl⟩ ?_
          refine zk_getr (pc' := 180) hC fl_X5_35 (by first | decide | assumption | omega) (by first | rfl | assumption) rfl ⟨dX5_segment_177, rfl⟩ ?_
          refine zk_sipush (pc' := 183) (x := nI 128) hC ⟨dX5_segment_180, rfl⟩ zc_sipush_128 ?_
          refine zk_iload (pc' := 185) hC rfl ⟨dX5_segment_183, rfl⟩ ?_
          first | refine zk_imulN (pc' := 186) hC ⟨dX5_segment_185, rfl⟩ ?_ | refine zk_imul (pc' := 186) hC ⟨dX5_segment_185, rfl⟩ ?_
          refine zk_iload (pc' := 188) hC rfl ⟨dX5_segment_186, rfl⟩ ?_
          first | refine zk_iaddN (pc' := 189) hC ⟨dX5_segment_188, rfl⟩ ?_ | refine zk_iadd (pc' := 189) hC ⟨dX5_segment_188, rfl⟩ ?_
          first | refine zk_laldN (pc' := 190) hC (by first | decide | assumption | omega) (by first | rfl | assumption) (by omega) (by first | decide | omega) ⟨dX5_segment_189, rfl⟩ ?_ | refine zk_t1N (pc' := 190) hC (by omega) ⟨dX5_segment_189, rfl⟩ ?_
          rw [md_5_9]
          first | refine zk_lastN (pc' := 191) hC (by first | decide | assumption | omega) (by first | rfl | assumption) (by omega) (by first | decide | omega) ⟨dX5_segment_190, rfl⟩ ?_
          rw [md_5_10, md_5_u10, fz_S _ (fun k => mem (128 * bf + k)) k rfl]
          refine zk_aload_n (pc' := 192) hC rfl ⟨dX5_segment_191, rfl⟩ ?_
          refine zk_getr (pc' := 195) hC fl_X5_41 (by first | decide | assumption | omega) (by first | rfl | assumption) rfl ⟨dX5_segment_192, rfl⟩ ?_
          refine zk_iload (pc' := 197) hC rfl ⟨dX5_segment_195, rfl⟩ ?_
          refine zk_aload_n (pc' := 198) hC rfl ⟨dX5_segment_197, rfl⟩ ?_
          refine zk_getr (pc' := 201) hC fl_X5_35 (by first | decide | assumption | omega) (by first | rfl | assumption) rfl ⟨dX5_segment_198, rfl⟩ ?_
          refine zk_sipush (pc' := 204) (x := nI 128) hC ⟨dX5_segment_201, rfl⟩ zc_sipush_128 ?_
          refine zk_iload (pc' := 206) hC rfl ⟨dX5_segment_204, rfl⟩ ?_
          first | refine zk_imulN (pc' := 207) hC ⟨dX5_segment_206, rfl⟩ ?_ | refine zk_imul (pc' := 207) hC ⟨dX5_segment_206, rfl⟩ ?_
          refine zk_iload (pc' := 209) hC rfl ⟨dX5_segment_207, rfl⟩ ?_
          first | refine zk_iaddN (pc' := 210) hC ⟨dX5_segment_209, rfl⟩ ?_ | refine zk_iadd (pc' := 210) hC ⟨dX5_segment_209, rfl⟩ ?_
          first | refine zk_laldN (pc' := 211) hC (by first | decide | assumption | omega) (by first | rfl | assumption) (by omega) (by first | decide | omega) ⟨dX5_segment_210, rfl⟩ ?_ | refine zk_t1N (pc' := 211) hC (by omega) ⟨dX5_segment_210, rfl⟩ ?_
          rw [md_5_9]
          first | refine zk_lastN (pc' := 212) hC (by first | decide | assumption | omega) (by first | rfl | assumption) (by omega) (by first | decide | omega) ⟨dX5_segment_211, rfl⟩ ?_
          rw [md_5_11, md_5_u11, fz_S _ (fun k => mem (128 * fr + k)) k rfl]
          first | refine zk_in10 (pc' := 215) hC ⟨dX5_segment_212, rfl⟩ ?_ | refine zk_iincG (pc' := 215) hC ⟨dX5_segment_212, rfl⟩ rfl ?_
          refine zk_goto (pc' := 218) hC ⟨dX5_segment_215, rfl⟩ 162 (by decide) ?_
          exact ihk

