/-! SLOWSEAL: registers -/
abbrev is_r (x : Int32) : Prop := ¬ x < 0 ∧ ¬ nI 8 ≤ x
theorem is_r_of {x : Int32} (h : is_r x) : ∃ r, r < 8 ∧ x = nI r := by
  obtain ⟨r, hr, rfl⟩ := nI_of h.1
  exact ⟨r, Nat.not_le.mp fun z => h.2 (nI_le z hr), rfl⟩
theorem is_r_nI {r : Nat} (h : r < 8) : is_r (nI r) := ⟨nI_pos (by omega), nI_ge h (by decide)⟩
theorem is_r_m1 : ¬ is_r (-1) := by decide
theorem bz_reg : ∀ r, r < 8 → bz_ok (2 + r) (10 + r) 200
  | 0, _ => ⟨by decide, by decide, rfl, rfl, by decide⟩
  | 1, _ => ⟨by decide, by decide, rfl, rfl, by decide⟩
  | 2, _ => ⟨by decide, by decide, rfl, rfl, by decide⟩
  | 3, _ => ⟨by decide, by decide, rfl, rfl, by decide⟩
  | 4, _ => ⟨by decide, by decide, rfl, rfl, by decide⟩
  | 5, _ => ⟨by decide, by decide, rfl, rfl, by decide⟩
  | 6, _ => ⟨by decide, by decide, rfl, rfl, by decide⟩
  | 7, _ => ⟨by decide, by decide, rfl, rfl, by decide⟩
  | _ + 8, h => absurd h (by omega)
/-- a register, or (for any other number) the one without bytes -/
def rg_p (x : Int32) : Nat := if is_r x then 2 + x.toNatClampNeg else 18
def rg_a (x : Int32) : Nat := if is_r x then 10 + x.toNatClampNeg else 19
def rg_n (x : Int32) : Nat := if is_r x then 200 else 0
theorem rg_ok (x : Int32) : bz_ok (rg_p x) (rg_a x) (rg_n x) := by
  by_cases h : is_r x
  · obtain ⟨r, hr, rfl⟩ := is_r_of h
    unfold rg_p rg_a rg_n
    rw [if_pos h, if_pos h, if_pos h, nI_clamp (by omega)]
    exact bz_reg r hr
  · unfold rg_p rg_a rg_n
    rw [if_neg h, if_neg h, if_neg h]
    exact bz_none
theorem rg_b (x : Int32) : (2 ≤ rg_p x ∧ rg_p x ≤ 9 ∨ rg_p x = 18) ∧ (10 ≤ rg_a x ∧ rg_a x ≤ 17 ∨ rg_a x = 19) := by
  by_cases h : is_r x
  · obtain ⟨r, hr, rfl⟩ := is_r_of h
    unfold rg_p rg_a
    rw [if_pos h, if_pos h, nI_clamp (by omega)]
    omega
  · unfold rg_p rg_a
    rw [if_neg h, if_neg h]
    omega
theorem rg_nI {r : Nat} (h : r < 8) : rg_p (nI r) = 2 + r ∧ rg_a (nI r) = 10 + r ∧ rg_n (nI r) = 200 := by
  unfold rg_p rg_a rg_n
  rw [if_pos (is_r_nI h), if_pos (is_r_nI h), if_pos (is_r_nI h), nI_clamp (by omega)]
  exact ⟨rfl, rfl, rfl⟩

set_option maxHeartbeats 1000000 in
set_option maxRecDepth 100000 in
theorem c_X4_isRegister (X : zk_X) (I : zk_I) (J : zk_J) (x : Int32) : zk_M 0 X yX4_isRegister cX4_isRegister 1 ((some .boolean)) (0, 0) [.int x] I J (some (.int (nI (if is_r x then 1 else 0)))) I J := by
  refine zk_M.intro (by decide) (lv := [some (.int x)]) rfl rfl (fun E hC hR => ?_)
  refine zk_iload_n (pc' := 1) hC rfl ⟨dX4_isRegister_0, rfl⟩ ?_
  refine zk_if_lt (pc' := 4) hC ⟨dX4_isRegister_1, rfl⟩ 14 (by decide) (fun q1 => ?_) (fun q1 => ?_)
  · rw [if_neg (fun h => h.1 q1)] at hR
    refine zk_iconst (pc' := 15) (x := nI 0) hC ⟨dX4_isRegister_14, rfl⟩ zc_iconst_0 ?_
    exact zk_zret (pc' := 16) hC hR rfl rfl rfl rfl ⟨dX4_isRegister_15, rfl⟩
  · refine zk_iload_n (pc' := 5) hC rfl ⟨dX4_isRegister_4, rfl⟩ ?_
    refine zk_bipush (pc' := 7) (x := nI 8) hC ⟨dX4_isRegister_5, rfl⟩ zc_bipush_8 ?_
    refine zk_icmp_ge (pc' := 10) hC ⟨dX4_isRegister_7, rfl⟩ 14 (by decide) (fun q2 => ?_) (fun q2 => ?_)
    · rw [if_neg (fun h => h.2 q2)] at hR
      refine zk_iconst (pc' := 15) (x := nI 0) hC ⟨dX4_isRegister_14, rfl⟩ zc_iconst_0 ?_
      exact zk_zret (pc' := 16) hC hR rfl rfl rfl rfl ⟨dX4_isRegister_15, rfl⟩
    · rw [if_pos ⟨q1, q2⟩] at hR
      refine zk_iconst (pc' := 11) (x := nI 1) hC ⟨dX4_isRegister_10, rfl⟩ zc_iconst_1 ?_
      refine zk_goto (pc' := 14) hC ⟨dX4_isRegister_11, rfl⟩ 15 (by decide) ?_
      exact zk_zret (pc' := 16) hC hR rfl rfl rfl rfl ⟨dX4_isRegister_15, rfl⟩

set_option maxHeartbeats 1000000 in
set_option maxRecDepth 100000 in
theorem c_X4_isRegisterOrNone (X : zk_X) (I : zk_I) (J : zk_J) (x : Int32) : zk_M 0 X yX4_isRegisterOrNone cX4_isRegisterOrNone 1 ((some .boolean)) (1, 20) [.int x] I J (some (.int (nI (if x = -1 ∨ is_r x then 1 else 0)))) I J := by
  refine zk_M.intro (by decide) (lv := [some (.int x)]) rfl rfl (fun E hC hR => ?_)
  refine zk_iload_n (pc' := 1) hC rfl ⟨dX4_isRegisterOrNone_0, rfl⟩ ?_
  refine zk_iconst (pc' := 2) (x := (-1 : Int32)) hC ⟨dX4_isRegisterOrNone_1, rfl⟩ zc_iconst_m1 ?_
  refine zk_icmp_eq (pc' := 5) hC ⟨dX4_isRegisterOrNone_2, rfl⟩ 12 (by decide) (fun q => ?_) (fun q => ?_)
  · rw [if_pos (Or.inl q)] at hR
    refine zk_iconst (pc' := 13) (x := nI 1) hC ⟨dX4_isRegisterOrNone_12, rfl⟩ zc_iconst_1 ?_
    refine zk_goto (pc' := 16) hC ⟨dX4_isRegisterOrNone_13, rfl⟩ 17 (by decide) ?_
    exact zk_zret (pc' := 18) hC hR rfl rfl rfl rfl ⟨dX4_isRegisterOrNone_17, rfl⟩
  · refine zk_iload_n (pc' := 6) hC rfl ⟨dX4_isRegisterOrNone_5, rfl⟩ ?_
    refine zk_callS1 (pc' := 9) hC ml_X4_39 ms_X4_isRegister (c_X4_isRegister X I J x) (by decide) rfl rfl (Nat.le_of_ble_eq_true rfl) ⟨dX4_isRegisterOrNone_6, rfl⟩ ?_
    by_cases h : is_r x
    · skip
      rw [if_pos h]
      rw [if_pos (Or.inr h)] at hR
      refine zk_if_eqN (pc' := 12) hC ⟨dX4_isRegisterOrNone_9, rfl⟩ 16 (by decide) (by omega) (fun q2 => ?_) (fun q2 => ?_)
      · omega
      · refine zk_iconst (pc' := 13) (x := nI 1) hC ⟨dX4_isRegisterOrNone_12, rfl⟩ zc_iconst_1 ?_
        refine zk_goto (pc' := 16) hC ⟨dX4_isRegisterOrNone_13, rfl⟩ 17 (by decide) ?_
        exact zk_zret (pc' := 18) hC hR rfl rfl rfl rfl ⟨dX4_isRegisterOrNone_17, rfl⟩
    · skip
      rw [if_neg h]
      rw [if_neg (fun z => z.elim q h)] at hR
      refine zk_if_eqN (pc' := 12) hC ⟨dX4_isRegisterOrNone_9, rfl⟩ 16 (by decide) (by omega) (fun q2 => ?_) (fun q2 => ?_)
      · refine zk_iconst (pc' := 17) (x := nI 0) hC ⟨dX4_isRegisterOrNone_16, rfl⟩ zc_iconst_0 ?_
        exact zk_zret (pc' := 18) hC hR rfl rfl rfl rfl ⟨dX4_isRegisterOrNone_17, rfl⟩
      · omega

set_option maxHeartbeats 1000000 in
set_option maxRecDepth 100000 in
theorem c_X4_bytesOf (X : zk_X) (I : zk_I) (J : zk_J) (x : Int32) : zk_M 0 X yX4_bytesOf cX4_bytesOf 2 ((some (.object "SlowSeal$Bytes"))) (1, 20) [.ref (zk_ad X 0), .int x] I J (some (.ref (zk_ad X (rg_p x)))) I J := by
  refine zk_M.intro (by decide) (lv := [some (.ref (zk_ad X 0)), some (.int x)]) rfl rfl (fun E hC hR => ?_)
  refine zk_iload_n (pc' := 1) hC rfl ⟨dX4_bytesOf_0, rfl⟩ ?_
  refine zk_callS1 (pc' := 4) hC ml_X4_39 ms_X4_isRegister (c_X4_isRegister X I J x) (by decide) rfl rfl (Nat.le_of_ble_eq_true rfl) ⟨dX4_bytesOf_1, rfl⟩ ?_
  by_cases h : is_r x
  · skip
    rw [if_pos h]
    rw [rg_p, if_pos h] at hR
    obtain ⟨r, hr, rfl⟩ := is_r_of h
    rw [nI_clamp (by omega)] at hR
    refine zk_if_eqN (pc' := 7) hC ⟨dX4_bytesOf_4, rfl⟩ 16 (by decide) (by omega) (fun q2 => ?_) (fun q2 => ?_)
    · omega
    · refine zk_aload_n (pc' := 8) hC rfl ⟨dX4_bytesOf_7, rfl⟩ ?_
      refine zk_getr (pc' := 11) hC fl_X4_11 (by first | decide | assumption | omega) (by first | rfl | assumption) rfl ⟨dX4_bytesOf_8, rfl⟩ ?_
      refine zk_iload_n (pc' := 12) hC rfl ⟨dX4_bytesOf_11, rfl⟩ ?_
      refine zk_aaldN (pc' := 13) hC (by first | decide | assumption | omega) (by first | rfl | assumption) rfl rfl (by omega) (by first | decide | omega) ⟨dX4_bytesOf_12, rfl⟩ ?_
      refine zk_goto (pc' := 16) hC ⟨dX4_bytesOf_13, rfl⟩ 20 (by decide) ?_
      exact zk_aret (pc' := 21) hC hR (Or.inl ⟨_, rfl⟩) rfl rfl rfl ⟨dX4_bytesOf_20, rfl⟩
  · skip
    rw [if_neg h]
    rw [rg_p, if_neg h] at hR
    refine zk_if_eqN (pc' := 7) hC ⟨dX4_bytesOf_4, rfl⟩ 16 (by decide) (by omega) (fun q2 => ?_) (fun q2 => ?_)
    · refine zk_aload_n (pc' := 17) hC rfl ⟨dX4_bytesOf_16, rfl⟩ ?_
      refine zk_getr (pc' := 20) hC fl_X4_18 (by first | decide | assumption | omega) (by first | rfl | assumption) rfl ⟨dX4_bytesOf_17, rfl⟩ ?_
      exact zk_aret (pc' := 21) hC hR (Or.inl ⟨_, rfl⟩) rfl rfl rfl ⟨dX4_bytesOf_20, rfl⟩
    · omega

set_option maxHeartbeats 1000000 in
set_option maxRecDepth 100000 in
theorem c_X4_add_bad (X : zk_X) (I : zk_I) (J : zk_J) (r n : Int32) (w : Int64) (hbad : ¬ (is_r r ∧ ¬ n < nI 1 ∧ ¬ nI 8 < n)) : zk_M 0 X yX4_add cX4_add 6 ((some .int)) (2, 45) [.ref (zk_ad X 0), .int r, .int n, .long w] I J (some (.int (-2))) I J := by
  refine zk_M.intro (by decide) (lv := [some (.ref (zk_ad X 0)), some (.int r), some (.int n), some (.long w), none, none]) rfl rfl (fun E hC hR => ?_)
  refine zk_iload_n (pc' := 1) hC rfl ⟨dX4_add_0, rfl⟩ ?_
  refine zk_callS1 (pc' := 4) hC ml_X4_39 ms_X4_isRegister (c_X4_isRegister X I J r) (by decide) rfl rfl (Nat.le_of_ble_eq_true rfl) ⟨dX4_add_1, rfl⟩ ?_
  by_cases h : is_r r
  · skip
    rw [if_pos h]
    refine zk_if_eqN (pc' := 7) hC ⟨dX4_add_4, rfl⟩ 18 (by decide) (by omega) (fun q => ?_) (fun q => ?_)
    · omega
    · refine zk_iload_n (pc' := 8) hC rfl ⟨dX4_add_7, rfl⟩ ?_
      refine zk_iconst (pc' := 9) (x := nI 1) hC ⟨dX4_add_8, rfl⟩ zc_iconst_1 ?_
      refine zk_icmp_lt (pc' := 12) hC ⟨dX4_add_9, rfl⟩ 18 (by decide) (fun q2 => ?_) (fun q2 => ?_)
      · refine zk_bipush (pc' := 20) (x := (-2 : Int32)) hC ⟨dX4_add_18, rfl⟩ zc_bipush_m2 ?_
        exact zk_iret (pc' := 21) hC hR rfl rfl rfl ⟨dX4_add_20, rfl⟩
      · refine zk_iload_n (pc' := 13) hC rfl ⟨dX4_add_12, rfl⟩ ?_
        refine zk_bipush (pc' := 15) (x := nI 8) hC ⟨dX4_add_13, rfl⟩ zc_bipush_8 ?_
        refine zk_icmp_le (pc' := 18) hC ⟨dX4_add_15, rfl⟩ 21 (by decide) (fun q3 => ?_) (fun q3 => ?_)
        · exact absurd ⟨h, q2, by intro z; exact absurd q3 (Int32.not_le.mpr z)⟩ hbad
        · refine zk_bipush (pc' := 20) (x := (-2 : Int32)) hC ⟨dX4_add_18, rfl⟩ zc_bipush_m2 ?_
          exact zk_iret (pc' := 21) hC hR rfl rfl rfl ⟨dX4_add_20, rfl⟩
  · skip
    rw [if_neg h]
    refine zk_if_eqN (pc' := 7) hC ⟨dX4_add_4, rfl⟩ 18 (by decide) (by omega) (fun q => ?_) (fun q => ?_)
    · refine zk_bipush (pc' := 20) (x := (-2 : Int32)) hC ⟨dX4_add_18, rfl⟩ zc_bipush_m2 ?_
      exact zk_iret (pc' := 21) hC hR rfl rfl rfl ⟨dX4_add_20, rfl⟩
    · omega

set_option maxHeartbeats 1000000 in
set_option maxRecDepth 100000 in
theorem c_X4_add_ref (X : zk_X) (I : zk_I) (J : zk_J) {r n c : Nat} (w : Int64) (hr : r < 8) (hn1 : 1 ≤ n) (hn8 : n ≤ 8) (hc : I (2 + r) 1 = nI c) (hc2 : c ≤ 200) (hcn : 200 < c + n) : zk_M 0 X yX4_add cX4_add 6 ((some .int)) (2, 45) [.ref (zk_ad X 0), .int (nI r), .int (nI n), .long w] I J (some (.int (-3))) I J := by
  refine zk_M.intro (by decide) (lv := [some (.ref (zk_ad X 0)), some (.int (nI r)), some (.int (nI n)), some (.long w), none, none]) rfl rfl (fun E hC hR => ?_)
  obtain ⟨hk1, hk2, hk3, hk4, hk5⟩ := bz_reg r hr
  refine zk_iload_n (pc' := 1) hC rfl ⟨dX4_add_0, rfl⟩ ?_
  refine zk_callS1 (pc' := 4) hC ml_X4_39 ms_X4_isRegister (c_X4_isRegister X I J (nI r)) (by decide) rfl rfl (Nat.le_of_ble_eq_true rfl) ⟨dX4_add_1, rfl⟩ ?_
  rw [if_pos (is_r_nI hr)]
  refine zk_if_eqN (pc' := 7) hC ⟨dX4_add_4, rfl⟩ 18 (by decide) (by omega) (fun q => ?_) (fun q => ?_)
  · omega
  · refine zk_iload_n (pc' := 8) hC rfl ⟨dX4_add_7, rfl⟩ ?_
    refine zk_iconst (pc' := 9) (x := nI 1) hC ⟨dX4_add_8, rfl⟩ zc_iconst_1 ?_
    refine zk_icmp_ltN (pc' := 12) hC ⟨dX4_add_9, rfl⟩ 18 (by decide) (by omega) (by omega) (fun q2 => ?_) (fun q2 => ?_)
    · omega
    · refine zk_iload_n (pc' := 13) hC rfl ⟨dX4_add_12, rfl⟩ ?_
      refine zk_bipush (pc' := 15) (x := nI 8) hC ⟨dX4_add_13, rfl⟩ zc_bipush_8 ?_
      refine zk_icmp_leN (pc' := 18) hC ⟨dX4_add_15, rfl⟩ 21 (by decide) (by omega) (by omega) (fun q3 => ?_) (fun q3 => ?_)
      · refine zk_aload_n (pc' := 22) hC rfl ⟨dX4_add_21, rfl⟩ ?_
        refine zk_iload_n (pc' := 23) hC rfl ⟨dX4_add_22, rfl⟩ ?_
        refine zk_callV1 (pc' := 26) hC ml_X4_43 mi_X4_bytesOf (c_X4_bytesOf X I J (nI r)) (by decide) (by first | decide | assumption | omega) (by first | rfl | assumption) rfl rfl rfl (Nat.le_of_ble_eq_true rfl) ⟨dX4_add_23, rfl⟩ ?_
        rw [(rg_nI hr).1]
        refine zk_as5 (pc' := 28) hC ⟨dX4_add_26, rfl⟩ rfl ?_
        refine zk_aload (pc' := 30) hC rfl ⟨dX4_add_28, rfl⟩ ?_
        first | refine zk_getiN (pc' := 33) hC fl_X4_47 (by first | decide | assumption | omega) (by first | rfl | assumption) rfl (by first | assumption | (rw [zk_u_s]; rfl) | (rw [hI]; rfl)) ⟨dX4_add_30, rfl⟩ ?_ | refine zk_geti (pc' := 33) hC fl_X4_47 (by first | decide | assumption | omega) (by first | rfl | assumption) rfl ⟨dX4_add_30, rfl⟩ ?_
        refine zk_iload_n (pc' := 34) hC rfl ⟨dX4_add_33, rfl⟩ ?_
        first | refine zk_iaddN (pc' := 35) hC ⟨dX4_add_34, rfl⟩ ?_ | refine zk_iadd (pc' := 35) hC ⟨dX4_add_34, rfl⟩ ?_
        refine zk_sipush (pc' := 38) (x := nI 200) hC ⟨dX4_add_35, rfl⟩ zc_sipush_200 ?_
        refine zk_icmp_leN (pc' := 41) hC ⟨dX4_add_38, rfl⟩ 44 (by decide) (by omega) (by omega) (fun q4 => ?_) (fun q4 => ?_)
        · omega
        · refine zk_bipush (pc' := 43) (x := (-3 : Int32)) hC ⟨dX4_add_41, rfl⟩ zc_bipush_m3 ?_
          exact zk_iret (pc' := 44) hC hR rfl rfl rfl ⟨dX4_add_43, rfl⟩
      · omega

set_option maxHeartbeats 1000000 in
set_option maxRecDepth 100000 in
theorem c_X4_add_ok (X : zk_X) (I : zk_I) (J : zk_J) {r n c : Nat} (w : Int64) (hr : r < 8) (hn1 : 1 ≤ n) (hn8 : n ≤ 8) (hc : I (2 + r) 1 = nI c) (hc2 : c ≤ 200) (hcn : c + n ≤ 200) : zk_M 0 X yX4_add cX4_add 6 ((some .int)) (2, 45) [.ref (zk_ad X 0), .int (nI r), .int (nI n), .long w] I J (some (.int (nI (c + n)))) (bz_set I (2 + r) (10 + r) (bz_pn 200 (c, I (10 + r)) w n)) J := by
  refine zk_M.intro (by decide) (lv := [some (.ref (zk_ad X 0)), some (.int (nI r)), some (.int (nI n)), some (.long w), none, none]) rfl rfl (fun E hC hR => ?_)
  obtain ⟨hk1, hk2, hk3, hk4, hk5⟩ := bz_reg r hr
  refine zk_iload_n (pc' := 1) hC rfl ⟨dX4_add_0, rfl⟩ ?_
  refine zk_callS1 (pc' := 4) hC ml_X4_39 ms_X4_isRegister (c_X4_isRegister X I J (nI r)) (by decide) rfl rfl (Nat.le_of_ble_eq_true rfl) ⟨dX4_add_1, rfl⟩ ?_
  rw [if_pos (is_r_nI hr)]
  refine zk_if_eqN (pc' := 7) hC ⟨dX4_add_4, rfl⟩ 18 (by decide) (by omega) (fun q => ?_) (fun q => ?_)
  · omega
  · refine zk_iload_n (pc' := 8) hC rfl ⟨dX4_add_7, rfl⟩ ?_
    refine zk_iconst (pc' := 9) (x := nI 1) hC ⟨dX4_add_8, rfl⟩ zc_iconst_1 ?_
    refine zk_icmp_ltN (pc' := 12) hC ⟨dX4_add_9, rfl⟩ 18 (by decide) (by omega) (by omega) (fun q2 => ?_) (fun q2 => ?_)
    · omega
    · refine zk_iload_n (pc' := 13) hC rfl ⟨dX4_add_12, rfl⟩ ?_
      refine zk_bipush (pc' := 15) (x := nI 8) hC ⟨dX4_add_13, rfl⟩ zc_bipush_8 ?_
      refine zk_icmp_leN (pc' := 18) hC ⟨dX4_add_15, rfl⟩ 21 (by decide) (by omega) (by omega) (fun q3 => ?_) (fun q3 => ?_)
      · refine zk_aload_n (pc' := 22) hC rfl ⟨dX4_add_21, rfl⟩ ?_
        refine zk_iload_n (pc' := 23) hC rfl ⟨dX4_add_22, rfl⟩ ?_
        refine zk_callV1 (pc' := 26) hC ml_X4_43 mi_X4_bytesOf (c_X4_bytesOf X I J (nI r)) (by decide) (by first | decide | assumption | omega) (by first | rfl | assumption) rfl rfl rfl (Nat.le_of_ble_eq_true rfl) ⟨dX4_add_23, rfl⟩ ?_
        rw [(rg_nI hr).1]
        refine zk_as5 (pc' := 28) hC ⟨dX4_add_26, rfl⟩ rfl ?_
        refine zk_aload (pc' := 30) hC rfl ⟨dX4_add_28, rfl⟩ ?_
        first | refine zk_getiN (pc' := 33) hC fl_X4_47 (by first | decide | assumption | omega) (by first | rfl | assumption) rfl (by first | assumption | (rw [zk_u_s]; rfl) | (rw [hI]; rfl)) ⟨dX4_add_30, rfl⟩ ?_ | refine zk_geti (pc' := 33) hC fl_X4_47 (by first | decide | assumption | omega) (by first | rfl | assumption) rfl ⟨dX4_add_30, rfl⟩ ?_
        refine zk_iload_n (pc' := 34) hC rfl ⟨dX4_add_33, rfl⟩ ?_
        first | refine zk_iaddN (pc' := 35) hC ⟨dX4_add_34, rfl⟩ ?_ | refine zk_iadd (pc' := 35) hC ⟨dX4_add_34, rfl⟩ ?_
        refine zk_sipush (pc' := 38) (x := nI 200) hC ⟨dX4_add_35, rfl⟩ zc_sipush_200 ?_
        refine zk_icmp_leN (pc' := 41) hC ⟨dX4_add_38, rfl⟩ 44 (by decide) (by omega) (by omega) (fun q4 => ?_) (fun q4 => ?_)
        · refine zk_aload (pc' := 46) hC rfl ⟨dX4_add_44, rfl⟩ ?_
          refine zk_lload_n (pc' := 47) hC rfl ⟨dX4_add_46, rfl⟩ ?_
          refine zk_iload_n (pc' := 48) hC rfl ⟨dX4_add_47, rfl⟩ ?_
          refine zk_callV0 (pc' := 51) hC ml_X4_51 mi_X0_putNumber (c_X0_putNumber X I J (bz_reg r hr) (q := n) w (nI n) (Or.inl ⟨rfl, by omega⟩) hc hc2) (by decide) (by first | decide | assumption | omega) (by first | rfl | assumption) rfl rfl rfl (Nat.le_of_ble_eq_true rfl) ⟨dX4_add_48, rfl⟩ ?_
          have hcc : bz_set I (2 + r) (10 + r) (bz_pn 200 (c, I (10 + r)) w n) (2 + r) 1 = nI (c + n) := by rw [bz_set_c, bz_pn_c (show ((c, I (10 + r)) : Nat × (Nat → Int32)).1 ≤ 200 from hc2)]; congr 1; show min 200 (c + n) = c + n; omega
          refine zk_aload (pc' := 53) hC rfl ⟨dX4_add_51, rfl⟩ ?_
          first | refine zk_getiN (pc' := 56) hC fl_X4_47 (by first | decide | assumption | omega) (by first | rfl | assumption) rfl (by first | assumption | (rw [zk_u_s]; rfl) | (rw [hI]; rfl)) ⟨dX4_add_53, rfl⟩ ?_ | refine zk_geti (pc' := 56) hC fl_X4_47 (by first | decide | assumption | omega) (by first | rfl | assumption) rfl ⟨dX4_add_53, rfl⟩ ?_
          exact zk_iret (pc' := 57) hC hR rfl rfl rfl ⟨dX4_add_56, rfl⟩
        · omega
      · omega

set_option maxHeartbeats 1000000 in
set_option maxRecDepth 100000 in
theorem c_X4_clear_bad (X : zk_X) (I : zk_I) (J : zk_J) (r : Int32) (hbad : ¬ is_r r) : zk_M 0 X yX4_clear cX4_clear 4 ((some .int)) (2, 41) [.ref (zk_ad X 0), .int r] I J (some (.int (-2))) I J := by
  refine zk_M.intro (by decide) (lv := [some (.ref (zk_ad X 0)), some (.int r), none, none]) rfl rfl (fun E hC hR => ?_)
  refine zk_iload_n (pc' := 1) hC rfl ⟨dX4_clear_0, rfl⟩ ?_
  refine zk_callS1 (pc' := 4) hC ml_X4_39 ms_X4_isRegister (c_X4_isRegister X I J r) (by decide) rfl rfl (Nat.le_of_ble_eq_true rfl) ⟨dX4_clear_1, rfl⟩ ?_
  rw [if_neg hbad]
  refine zk_if_neN (pc' := 7) hC ⟨dX4_clear_4, rfl⟩ 10 (by decide) (by omega) (fun q => ?_) (fun q => ?_)
  · omega
  · refine zk_bipush (pc' := 9) (x := (-2 : Int32)) hC ⟨dX4_clear_7, rfl⟩ zc_bipush_m2 ?_
    exact zk_iret (pc' := 10) hC hR rfl rfl rfl ⟨dX4_clear_9, rfl⟩

set_option maxHeartbeats 1000000 in
set_option maxRecDepth 100000 in
theorem c_X4_clear_ok (X : zk_X) (I : zk_I) (J : zk_J) {r c : Nat} (hr : r < 8) (hc : I (2 + r) 1 = nI c) : zk_M 0 X yX4_clear cX4_clear 4 ((some .int)) (2, 41) [.ref (zk_ad X 0), .int (nI r)] I J (some (.int (nI c))) (zk_u I (2 + r) (upd (I (2 + r)) 1 (nI 0))) J := by
  refine zk_M.intro (by decide) (lv := [some (.ref (zk_ad X 0)), some (.int (nI r)), none, none]) rfl rfl (fun E hC hR => ?_)
  obtain ⟨hk1, hk2, hk3, hk4, hk5⟩ := bz_reg r hr
  refine zk_iload_n (pc' := 1) hC rfl ⟨dX4_clear_0, rfl⟩ ?_
  refine zk_callS1 (pc' := 4) hC ml_X4_39 ms_X4_isRegister (c_X4_isRegister X I J (nI r)) (by decide) rfl rfl (Nat.le_of_ble_eq_true rfl) ⟨dX4_clear_1, rfl⟩ ?_
  rw [if_pos (is_r_nI hr)]
  refine zk_if_neN (pc' := 7) hC ⟨dX4_clear_4, rfl⟩ 10 (by decide) (by omega) (fun q => ?_) (fun q => ?_)
  · refine zk_aload_n (pc' := 11) hC rfl ⟨dX4_clear_10, rfl⟩ ?_
    refine zk_iload_n (pc' := 12) hC rfl ⟨dX4_clear_11, rfl⟩ ?_
    refine zk_callV1 (pc' := 15) hC ml_X4_43 mi_X4_bytesOf (c_X4_bytesOf X I J (nI r)) (by decide) (by first | decide | assumption | omega) (by first | rfl | assumption) rfl rfl rfl (Nat.le_of_ble_eq_true rfl) ⟨dX4_clear_12, rfl⟩ ?_
    rw [(rg_nI hr).1]
    refine zk_as2 (pc' := 16) hC ⟨dX4_clear_15, rfl⟩ rfl ?_
    refine zk_aload_n (pc' := 17) hC rfl ⟨dX4_clear_16, rfl⟩ ?_
    first | refine zk_getiN (pc' := 20) hC fl_X4_47 (by first | decide | assumption | omega) (by first | rfl | assumption) rfl (by first | assumption | (rw [zk_u_s]; rfl) | (rw [hI]; rfl)) ⟨dX4_clear_17, rfl⟩ ?_ | refine zk_geti (pc' := 20) hC fl_X4_47 (by first | decide | assumption | omega) (by first | rfl | assumption) rfl ⟨dX4_clear_17, rfl⟩ ?_
    refine zk_is3 (pc' := 21) hC ⟨dX4_clear_20, rfl⟩ rfl ?_
    refine zk_aload_n (pc' := 22) hC rfl ⟨dX4_clear_21, rfl⟩ ?_
    refine zk_callV0 (pc' := 25) hC ml_X4_55 mi_X0_empty (c_X0_empty X I J (bz_reg r hr)) (by decide) (by first | decide | assumption | omega) (by first | rfl | assumption) rfl rfl rfl (Nat.le_of_ble_eq_true rfl) ⟨dX4_clear_22, rfl⟩ ?_
    refine zk_iload_n (pc' := 26) hC rfl ⟨dX4_clear_25, rfl⟩ ?_
    exact zk_iret (pc' := 27) hC hR rfl rfl rfl ⟨dX4_clear_26, rfl⟩
  · omega

set_option maxHeartbeats 1000000 in
set_option maxRecDepth 100000 in
theorem c_X4_size_bad (X : zk_X) (I : zk_I) (J : zk_J) (r : Int32) (hbad : ¬ is_r r) : zk_M 0 X yX4_size cX4_size 2 ((some .int)) (2, 41) [.ref (zk_ad X 0), .int r] I J (some (.int (-2))) I J := by
  refine zk_M.intro (by decide) (lv := [some (.ref (zk_ad X 0)), some (.int r)]) rfl rfl (fun E hC hR => ?_)
  refine zk_iload_n (pc' := 1) hC rfl ⟨dX4_size_0, rfl⟩ ?_
  refine zk_callS1 (pc' := 4) hC ml_X4_39 ms_X4_isRegister (c_X4_isRegister X I J r) (by decide) rfl rfl (Nat.le_of_ble_eq_true rfl) ⟨dX4_size_1, rfl⟩ ?_
  rw [if_neg hbad]
  refine zk_if_eqN (pc' := 7) hC ⟨dX4_size_4, rfl⟩ 18 (by decide) (by omega) (fun q => ?_) (fun q => ?_)
  · refine zk_bipush (pc' := 20) (x := (-2 : Int32)) hC ⟨dX4_size_18, rfl⟩ zc_bipush_m2 ?_
    exact zk_iret (pc' := 21) hC hR rfl rfl rfl ⟨dX4_size_20, rfl⟩
  · omega

set_option maxHeartbeats 1000000 in
set_option maxRecDepth 100000 in
theorem c_X4_size_ok (X : zk_X) (I : zk_I) (J : zk_J) {r c : Nat} (hr : r < 8) (hc : I (2 + r) 1 = nI c) (hc2 : c ≤ 200) : zk_M 0 X yX4_size cX4_size 2 ((some .int)) (2, 41) [.ref (zk_ad X 0), .int (nI r)] I J (some (.int (nI c))) I J := by
  refine zk_M.intro (by decide) (lv := [some (.ref (zk_ad X 0)), some (.int (nI r))]) rfl rfl (fun E hC hR => ?_)
  obtain ⟨hk1, hk2, hk3, hk4, hk5⟩ := bz_reg r hr
  refine zk_iload_n (pc' := 1) hC rfl ⟨dX4_size_0, rfl⟩ ?_
  refine zk_callS1 (pc' := 4) hC ml_X4_39 ms_X4_isRegister (c_X4_isRegister X I J (nI r)) (by decide) rfl rfl (Nat.le_of_ble_eq_true rfl) ⟨dX4_size_1, rfl⟩ ?_
  rw [if_pos (is_r_nI hr)]
  refine zk_if_eqN (pc' := 7) hC ⟨dX4_size_4, rfl⟩ 18 (by decide) (by omega) (fun q => ?_) (fun q => ?_)
  · omega
  · refine zk_aload_n (pc' := 8) hC rfl ⟨dX4_size_7, rfl⟩ ?_
    refine zk_iload_n (pc' := 9) hC rfl ⟨dX4_size_8, rfl⟩ ?_
    refine zk_callV1 (pc' := 12) hC ml_X4_43 mi_X4_bytesOf (c_X4_bytesOf X I J (nI r)) (by decide) (by first | decide | assumption | omega) (by first | rfl | assumption) rfl rfl rfl (Nat.le_of_ble_eq_true rfl) ⟨dX4_size_9, rfl⟩ ?_
    rw [(rg_nI hr).1]
    first | refine zk_getiN (pc' := 15) hC fl_X4_47 (by first | decide | assumption | omega) (by first | rfl | assumption) rfl (by first | assumption | (rw [zk_u_s]; rfl) | (rw [hI]; rfl)) ⟨dX4_size_12, rfl⟩ ?_ | refine zk_geti (pc' := 15) hC fl_X4_47 (by first | decide | assumption | omega) (by first | rfl | assumption) rfl ⟨dX4_size_12, rfl⟩ ?_
    refine zk_goto (pc' := 18) hC ⟨dX4_size_15, rfl⟩ 20 (by decide) ?_
    exact zk_iret (pc' := 21) hC hR rfl rfl rfl ⟨dX4_size_20, rfl⟩

set_option maxHeartbeats 1000000 in
set_option maxRecDepth 100000 in
theorem c_X4_at_bad (X : zk_X) (I : zk_I) (J : zk_J) (r : Int32) (i : Int32) (hbad : ¬ is_r r) : zk_M 0 X yX4_at cX4_at 3 ((some .int)) (2, 41) [.ref (zk_ad X 0), .int r, .int i] I J (some (.int (-2))) I J := by
  refine zk_M.intro (by decide) (lv := [some (.ref (zk_ad X 0)), some (.int r), some (.int i)]) rfl rfl (fun E hC hR => ?_)
  refine zk_iload_n (pc' := 1) hC rfl ⟨dX4_at_0, rfl⟩ ?_
  refine zk_callS1 (pc' := 4) hC ml_X4_39 ms_X4_isRegister (c_X4_isRegister X I J r) (by decide) rfl rfl (Nat.le_of_ble_eq_true rfl) ⟨dX4_at_1, rfl⟩ ?_
  rw [if_neg hbad]
  refine zk_if_eqN (pc' := 7) hC ⟨dX4_at_4, rfl⟩ 19 (by decide) (by omega) (fun q => ?_) (fun q => ?_)
  · refine zk_bipush (pc' := 21) (x := (-2 : Int32)) hC ⟨dX4_at_19, rfl⟩ zc_bipush_m2 ?_
    exact zk_iret (pc' := 22) hC hR rfl rfl rfl ⟨dX4_at_21, rfl⟩
  · omega

set_option maxHeartbeats 1000000 in
set_option maxRecDepth 100000 in
theorem c_X4_at_ok (X : zk_X) (I : zk_I) (J : zk_J) {r c : Nat} (i : Int32) (hr : r < 8) (hc : I (2 + r) 1 = nI c) (hc2 : c ≤ 200) : zk_M 0 X yX4_at cX4_at 3 ((some .int)) (2, 41) [.ref (zk_ad X 0), .int (nI r), .int i] I J (some (.int (bz_at c (I (10 + r)) i))) I J := by
  refine zk_M.intro (by decide) (lv := [some (.ref (zk_ad X 0)), some (.int (nI r)), some (.int i)]) rfl rfl (fun E hC hR => ?_)
  obtain ⟨hk1, hk2, hk3, hk4, hk5⟩ := bz_reg r hr
  refine zk_iload_n (pc' := 1) hC rfl ⟨dX4_at_0, rfl⟩ ?_
  refine zk_callS1 (pc' := 4) hC ml_X4_39 ms_X4_isRegister (c_X4_isRegister X I J (nI r)) (by decide) rfl rfl (Nat.le_of_ble_eq_true rfl) ⟨dX4_at_1, rfl⟩ ?_
  rw [if_pos (is_r_nI hr)]
  refine zk_if_eqN (pc' := 7) hC ⟨dX4_at_4, rfl⟩ 19 (by decide) (by omega) (fun q => ?_) (fun q => ?_)
  · omega
  · refine zk_aload_n (pc' := 8) hC rfl ⟨dX4_at_7, rfl⟩ ?_
    refine zk_iload_n (pc' := 9) hC rfl ⟨dX4_at_8, rfl⟩ ?_
    refine zk_callV1 (pc' := 12) hC ml_X4_43 mi_X4_bytesOf (c_X4_bytesOf X I J (nI r)) (by decide) (by first | decide | assumption | omega) (by first | rfl | assumption) rfl rfl rfl (Nat.le_of_ble_eq_true rfl) ⟨dX4_at_9, rfl⟩ ?_
    rw [(rg_nI hr).1]
    refine zk_iload_n (pc' := 13) hC rfl ⟨dX4_at_12, rfl⟩ ?_
    refine zk_callV1 (pc' := 16) hC ml_X4_58 mi_X0_byteAt (c_X0_byteAt X I J (bz_reg r hr) i hc hc2) (by decide) (by first | decide | assumption | omega) (by first | rfl | assumption) rfl rfl rfl (Nat.le_of_ble_eq_true rfl) ⟨dX4_at_13, rfl⟩ ?_
    refine zk_goto (pc' := 19) hC ⟨dX4_at_16, rfl⟩ 21 (by decide) ?_
    exact zk_iret (pc' := 22) hC hR rfl rfl rfl ⟨dX4_at_21, rfl⟩

set_option maxHeartbeats 1000000 in
set_option maxRecDepth 100000 in
theorem c_X4_word (X : zk_X) (I : zk_I) (J : zk_J) {g0 : Nat → Int32} {kd ln ps tg lb sb dn pa sl la : Nat} (hI : I 30 = fl_g g0 kd ln ps tg lb sb dn pa sl la) (hnb : ln * lb ≤ 128) (x y : Int32) : zk_M 0 X yX4_word cX4_word 3 ((some .long)) (2, 43) [.ref (zk_ad X 0), .int x, .int y] I J (some (.long (fl_wd J (ln * lb) x y))) I J := by
  refine zk_M.intro (by decide) (lv := [some (.ref (zk_ad X 0)), some (.int x), some (.int y)]) rfl rfl (fun E hC hR => ?_)
  refine zk_aload_n (pc' := 1) hC rfl ⟨dX4_word_0, rfl⟩ ?_
  refine zk_getr (pc' := 4) hC fl_X4_35 (by first | decide | assumption | omega) (by first | rfl | assumption) rfl ⟨dX4_word_1, rfl⟩ ?_
  refine zk_iload_n (pc' := 5) hC rfl ⟨dX4_word_4, rfl⟩ ?_
  refine zk_iload_n (pc' := 6) hC rfl ⟨dX4_word_5, rfl⟩ ?_
  refine zk_callV1 (pc' := 9) hC ml_X4_132 mi_X1_wordOf (c_X1_wordOf X I J hI hnb x y) (by decide) (by first | decide | assumption | omega) (by first | rfl | assumption) rfl rfl rfl (Nat.le_of_ble_eq_true rfl) ⟨dX4_word_6, rfl⟩ ?_
  exact zk_lret (pc' := 10) hC hR rfl rfl rfl ⟨dX4_word_9, rfl⟩

def tl_a (kd ln ps tg lb dn : Nat) (w : Nat) : Nat := match w with
  | 0 => kd
  | 1 => ln
  | 2 => ps
  | 3 => ln * lb
  | 4 => dn
  | 5 => ps * 4 * ln
  | _ => tg

set_option maxHeartbeats 1000000 in
set_option maxRecDepth 100000 in
theorem c_X4_told_bad (X : zk_X) (I : zk_I) (J : zk_J) (w : Int32) (hw : w < 0 ∨ nI 6 < w) : zk_M 0 X yX4_told cX4_told 2 ((some .int)) (1, 20) [.ref (zk_ad X 0), .int w] I J (some (.int (-2))) I J := by
  refine zk_M.intro (by decide) (lv := [some (.ref (zk_ad X 0)), some (.int w)]) rfl rfl (fun E hC hR => ?_)
  refine zk_iload_n (pc' := 1) hC rfl ⟨dX4_told_0, rfl⟩ ?_
  refine zk_tabOut hC dX4_told_1 100 (by rcases hw with h | h; exact Or.inl (by simpa using (Int32.lt_iff_toInt_lt.mp h)); exact Or.inr (by have := Int32.lt_iff_toInt_lt.mp h; rwa [nI_toInt (by decide)] at this)) (by decide) ?_
  refine zk_bipush (pc' := 102) (x := (-2 : Int32)) hC ⟨dX4_told_100, rfl⟩ zc_bipush_m2 ?_
  exact zk_iret (pc' := 103) hC hR rfl rfl rfl ⟨dX4_told_102, rfl⟩

set_option maxHeartbeats 1000000 in
set_option maxRecDepth 100000 in
theorem c_X4_told_ok (X : zk_X) (I : zk_I) (J : zk_J) {g0 : Nat → Int32} {kd ln ps tg lb sb dn pa sl la : Nat} (hI : I 30 = fl_g g0 kd ln ps tg lb sb dn pa sl la) (w : Nat) (hw : w < 7) : zk_M 0 X yX4_told cX4_told 2 ((some .int)) (1, 20) [.ref (zk_ad X 0), .int (nI w)] I J (some (.int (nI (tl_a kd ln ps tg lb dn w)))) I J := by
  refine zk_M.intro (by decide) (lv := [some (.ref (zk_ad X 0)), some (.int (nI w))]) rfl rfl (fun E hC hR => ?_)
  refine zk_iload_n (pc' := 1) hC rfl ⟨dX4_told_0, rfl⟩ ?_
  match w, hw with
  | 0, _ =>
    refine zk_tabIn hC dX4_told_1 44 (by decide +kernel) (by decide +kernel) (off := 43) (by decide +kernel) (by decide) ?_
    refine zk_aload_n (pc' := 45) hC rfl ⟨dX4_told_44, rfl⟩ ?_
    refine zk_getr (pc' := 48) hC fl_X4_35 (by first | decide | assumption | omega) (by first | rfl | assumption) rfl ⟨dX4_told_45, rfl⟩ ?_
    first | refine zk_getiN (pc' := 51) hC fl_X4_142 (by first | decide | assumption | omega) (by first | rfl | assumption) rfl (by first | assumption | (rw [zk_u_s]; rfl) | (rw [hI]; rfl)) ⟨dX4_told_48, rfl⟩ ?_ | refine zk_geti (pc' := 51) hC fl_X4_142 (by first | decide | assumption | omega) (by first | rfl | assumption) rfl ⟨dX4_told_48, rfl⟩ ?_
    exact zk_iret (pc' := 52) hC hR rfl rfl rfl ⟨dX4_told_51, rfl⟩
  | 1, _ =>
    refine zk_tabIn hC dX4_told_1 52 (by decide +kernel) (by decide +kernel) (off := 51) (by decide +kernel) (by decide) ?_
    refine zk_aload_n (pc' := 53) hC rfl ⟨dX4_told_52, rfl⟩ ?_
    refine zk_getr (pc' := 56) hC fl_X4_35 (by first | decide | assumption | omega) (by first | rfl | assumption) rfl ⟨dX4_told_53, rfl⟩ ?_
    first | refine zk_getiN (pc' := 59) hC fl_X4_145 (by first | decide | assumption | omega) (by first | rfl | assumption) rfl (by first | assumption | (rw [zk_u_s]; rfl) | (rw [hI]; rfl)) ⟨dX4_told_56, rfl⟩ ?_ | refine zk_geti (pc' := 59) hC fl_X4_145 (by first | decide | assumption | omega) (by first | rfl | assumption) rfl ⟨dX4_told_56, rfl⟩ ?_
    exact zk_iret (pc' := 60) hC hR rfl rfl rfl ⟨dX4_told_59, rfl⟩
  | 2, _ =>
    refine zk_tabIn hC dX4_told_1 60 (by decide +kernel) (by decide +kernel) (off := 59) (by decide +kernel) (by decide) ?_
    refine zk_aload_n (pc' := 61) hC rfl ⟨dX4_told_60, rfl⟩ ?_
    refine zk_getr (pc' := 64) hC fl_X4_35 (by first | decide | assumption | omega) (by first | rfl | assumption) rfl ⟨dX4_told_61, rfl⟩ ?_
    first | refine zk_getiN (pc' := 67) hC fl_X4_148 (by first | decide | assumption | omega) (by first | rfl | assumption) rfl (by first | assumption | (rw [zk_u_s]; rfl) | (rw [hI]; rfl)) ⟨dX4_told_64, rfl⟩ ?_ | refine zk_geti (pc' := 67) hC fl_X4_148 (by first | decide | assumption | omega) (by first | rfl | assumption) rfl ⟨dX4_told_64, rfl⟩ ?_
    exact zk_iret (pc' := 68) hC hR rfl rfl rfl ⟨dX4_told_67, rfl⟩
  | 3, _ =>
    refine zk_tabIn hC dX4_told_1 68 (by decide +kernel) (by decide +kernel) (off := 67) (by decide +kernel) (by decide) ?_
    refine zk_aload_n (pc' := 69) hC rfl ⟨dX4_told_68, rfl⟩ ?_
    refine zk_getr (pc' := 72) hC fl_X4_35 (by first | decide | assumption | omega) (by first | rfl | assumption) rfl ⟨dX4_told_69, rfl⟩ ?_
    refine zk_callV1 (pc' := 75) hC ml_X4_109 mi_X1_blocks (c_X1_blocks X I J hI) (by decide) (by first | decide | assumption | omega) (by first | rfl | assumption) rfl rfl rfl (Nat.le_of_ble_eq_true rfl) ⟨dX4_told_72, rfl⟩ ?_
    exact zk_iret (pc' := 76) hC hR rfl rfl rfl ⟨dX4_told_75, rfl⟩
  | 4, _ =>
    refine zk_tabIn hC dX4_told_1 76 (by decide +kernel) (by decide +kernel) (off := 75) (by decide +kernel) (by decide) ?_
    refine zk_aload_n (pc' := 77) hC rfl ⟨dX4_told_76, rfl⟩ ?_
    refine zk_getr (pc' := 80) hC fl_X4_35 (by first | decide | assumption | omega) (by first | rfl | assumption) rfl ⟨dX4_told_77, rfl⟩ ?_
    first | refine zk_getiN (pc' := 83) hC fl_X4_120 (by first | decide | assumption | omega) (by first | rfl | assumption) rfl (by first | assumption | (rw [zk_u_s]; rfl) | (rw [hI]; rfl)) ⟨dX4_told_80, rfl⟩ ?_ | refine zk_geti (pc' := 83) hC fl_X4_120 (by first | decide | assumption | omega) (by first | rfl | assumption) rfl ⟨dX4_told_80, rfl⟩ ?_
    exact zk_iret (pc' := 84) hC hR rfl rfl rfl ⟨dX4_told_83, rfl⟩
  | 5, _ =>
    refine zk_tabIn hC dX4_told_1 84 (by decide +kernel) (by decide +kernel) (off := 83) (by decide +kernel) (by decide) ?_
    refine zk_aload_n (pc' := 85) hC rfl ⟨dX4_told_84, rfl⟩ ?_
    refine zk_getr (pc' := 88) hC fl_X4_35 (by first | decide | assumption | omega) (by first | rfl | assumption) rfl ⟨dX4_told_85, rfl⟩ ?_
    refine zk_callV1 (pc' := 91) hC ml_X4_117 mi_X1_segments (c_X1_segments X I J hI) (by decide) (by first | decide | assumption | omega) (by first | rfl | assumption) rfl rfl rfl (Nat.le_of_ble_eq_true rfl) ⟨dX4_told_88, rfl⟩ ?_
    exact zk_iret (pc' := 92) hC hR rfl rfl rfl ⟨dX4_told_91, rfl⟩
  | 6, _ =>
    refine zk_tabIn hC dX4_told_1 92 (by decide +kernel) (by decide +kernel) (off := 91) (by decide +kernel) (by decide) ?_
    refine zk_aload_n (pc' := 93) hC rfl ⟨dX4_told_92, rfl⟩ ?_
    refine zk_getr (pc' := 96) hC fl_X4_35 (by first | decide | assumption | omega) (by first | rfl | assumption) rfl ⟨dX4_told_93, rfl⟩ ?_
    first | refine zk_getiN (pc' := 99) hC fl_X4_136 (by first | decide | assumption | omega) (by first | rfl | assumption) rfl (by first | assumption | (rw [zk_u_s]; rfl) | (rw [hI]; rfl)) ⟨dX4_told_96, rfl⟩ ?_ | refine zk_geti (pc' := 99) hC fl_X4_136 (by first | decide | assumption | omega) (by first | rfl | assumption) rfl ⟨dX4_told_96, rfl⟩ ?_
    exact zk_iret (pc' := 100) hC hR rfl rfl rfl ⟨dX4_told_99, rfl⟩
  | _ + 7, h => exact absurd h (by omega)

