/-! SLOWSEAL: what hashes -/
theorem hz_I_o {I : zk_I} {s : hz_T} {a : Nat} (h : ¬ (23 ≤ a ∧ a ≤ 26)) : hz_I I s a = I a := by
  unfold hz_I
  rw [bz_set_o (by omega) (by omega), bz_set_o (by omega) (by omega)]
theorem hz_I_m0 {I : zk_I} {p : Nat × (Nat → Int32)} {s : hz_T} : hz_I (bz_set I 23 24 p) s = hz_I I s := by
  unfold hz_I
  rw [bz_set_comm, bz_set_set (by decide)]
theorem bz_I_m {I : zk_I} {p q : Nat × (Nat → Int32)} {J : zk_J} : bz_set (bz_set I 23 24 q) 25 26 p = hz_I I (p, q, J) := bz_set_comm
theorem hz_LE_c {s : hz_T} {n : Nat} (h : s.1.1 ≤ n) (h2 : n - s.1.1 ≤ 64) (hn : n ≤ 1024) : (hz_LE s n).1.1 = n := by
  unfold hz_LE
  dsimp only
  rw [hz_gv_c (by omega)]; omega
/-- LONG of the message p, of n bytes -/
def hz_LL (I : zk_I) (J : zk_J) (p : Nat × (Nat → Int32)) (n : Nat) : hz_T := hz_LE (hz_L ((0, I 26), p, J) (hz_turns n)) n
theorem hz_LL_c {I : zk_I} {J : zk_J} {p : Nat × (Nat → Int32)} {n : Nat} (hp : p.1 ≤ 1028) (hn : n ≤ 1024) : (hz_LL I J p n).1.1 = n := by
  have h1 : hz_turns n ≤ 30 := by unfold hz_turns; omega
  have h2 : n - 32 * hz_turns n ≤ 64 := by unfold hz_turns; omega
  have h3 : 32 * hz_turns n ≤ n := by unfold hz_turns; omega
  have hc := hz_L_c (s := ((0, I 26), p, J)) rfl hp (hz_turns n) (by omega)
  exact hz_LE_c (by omega) (by omega) hn
/-- what is made comes to register t -/
def rg_give (I : zk_I) (t : Nat) (s : hz_T) : zk_I := bz_set (hz_I I s) (2 + t) (10 + t) (bz_pa 200 (0, I (10 + t)) s.1.2 s.1.1)

set_option maxHeartbeats 1000000 in
set_option maxRecDepth 100000 in
theorem c_X4_hash_bad (X : zk_X) (I : zk_I) (J : zk_J) (t f k n : Int32) {e : Nat} (he : I (rg_p k) 1 = nI e) (he2 : e ≤ 200) (hbad : ¬ (is_r t ∧ is_r f ∧ (k = -1 ∨ is_r k) ∧ ¬ n < nI 1 ∧ ¬ nI 64 < n ∧ e ≤ 64)) : zk_M 0 X yX4_hash cX4_hash 6 ((some .int)) (5, 118) [.ref (zk_ad X 0), .int t, .int f, .int k, .int n] I J (some (.int (-2))) I J := by
  refine zk_M.intro (by decide) (lv := [some (.ref (zk_ad X 0)), some (.int t), some (.int f), some (.int k), some (.int n), none]) rfl rfl (fun E hC hR => ?_)
  refine zk_iload_n (pc' := 1) hC rfl ⟨dX4_hash_0, rfl⟩ ?_
  refine zk_callS1 (pc' := 4) hC ml_X4_39 ms_X4_isRegister (c_X4_isRegister X I J t) (by decide) rfl rfl (Nat.le_of_ble_eq_true rfl) ⟨dX4_hash_1, rfl⟩ ?_
  by_cases h1 : is_r t
  · skip
    rw [if_pos h1]
    refine zk_if_eqN (pc' := 7) hC ⟨dX4_hash_4, rfl⟩ 21 (by decide) (by omega) (fun q => ?_) (fun q => ?_)
    · omega
    · refine zk_iload_n (pc' := 8) hC rfl ⟨dX4_hash_7, rfl⟩ ?_
      refine zk_callS1 (pc' := 11) hC ml_X4_39 ms_X4_isRegister (c_X4_isRegister X I J f) (by decide) rfl rfl (Nat.le_of_ble_eq_true rfl) ⟨dX4_hash_8, rfl⟩ ?_
      by_cases h2 : is_r f
      · skip
        rw [if_pos h2]
        refine zk_if_eqN (pc' := 14) hC ⟨dX4_hash_11, rfl⟩ 21 (by decide) (by omega) (fun q => ?_) (fun q => ?_)
        · omega
        · refine zk_iload_n (pc' := 15) hC rfl ⟨dX4_hash_14, rfl⟩ ?_
          refine zk_callS1 (pc' := 18) hC ml_X4_62 ms_X4_isRegisterOrNone (c_X4_isRegisterOrNone X I J k) (by decide) rfl rfl (Nat.le_of_ble_eq_true rfl) ⟨dX4_hash_15, rfl⟩ ?_
          by_cases h3 : k = -1 ∨ is_r k
          · skip
            rw [if_pos h3]
            refine zk_if_neN (pc' := 21) hC ⟨dX4_hash_18, rfl⟩ 24 (by decide) (by omega) (fun q => ?_) (fun q => ?_)
            · obtain ⟨hk1, hk2, hk3, hk4, hk5⟩ := rg_ok k
              refine zk_aload_n (pc' := 25) hC rfl ⟨dX4_hash_24, rfl⟩ ?_
              refine zk_iload_n (pc' := 26) hC rfl ⟨dX4_hash_25, rfl⟩ ?_
              refine zk_callV1 (pc' := 29) hC ml_X4_43 mi_X4_bytesOf (c_X4_bytesOf X I J k) (by decide) (by first | decide | assumption | omega) (by first | rfl | assumption) rfl rfl rfl (Nat.le_of_ble_eq_true rfl) ⟨dX4_hash_26, rfl⟩ ?_
              refine zk_as5 (pc' := 31) hC ⟨dX4_hash_29, rfl⟩ rfl ?_
              refine zk_iload (pc' := 33) hC rfl ⟨dX4_hash_31, rfl⟩ ?_
              refine zk_iconst (pc' := 34) (x := nI 1) hC ⟨dX4_hash_33, rfl⟩ zc_iconst_1 ?_
              refine zk_icmp_lt (pc' := 37) hC ⟨dX4_hash_34, rfl⟩ 54 (by decide) (fun q4 => ?_) (fun q4 => ?_)
              · refine zk_bipush (pc' := 56) (x := (-2 : Int32)) hC ⟨dX4_hash_54, rfl⟩ zc_bipush_m2 ?_
                exact zk_iret (pc' := 57) hC hR rfl rfl rfl ⟨dX4_hash_56, rfl⟩
              · refine zk_iload (pc' := 39) hC rfl ⟨dX4_hash_37, rfl⟩ ?_
                refine zk_bipush (pc' := 41) (x := nI 64) hC ⟨dX4_hash_39, rfl⟩ zc_bipush_64 ?_
                refine zk_icmp_gt (pc' := 44) hC ⟨dX4_hash_41, rfl⟩ 54 (by decide) (fun q5 => ?_) (fun q5 => ?_)
                · refine zk_bipush (pc' := 56) (x := (-2 : Int32)) hC ⟨dX4_hash_54, rfl⟩ zc_bipush_m2 ?_
                  exact zk_iret (pc' := 57) hC hR rfl rfl rfl ⟨dX4_hash_56, rfl⟩
                · refine zk_aload (pc' := 46) hC rfl ⟨dX4_hash_44, rfl⟩ ?_
                  first | refine zk_getiN (pc' := 49) hC fl_X4_47 (by first | decide | assumption | omega) (by first | rfl | assumption) rfl (by first | assumption | (rw [zk_u_s]; rfl) | (rw [hI]; rfl)) ⟨dX4_hash_46, rfl⟩ ?_ | refine zk_geti (pc' := 49) hC fl_X4_47 (by first | decide | assumption | omega) (by first | rfl | assumption) rfl ⟨dX4_hash_46, rfl⟩ ?_
                  refine zk_bipush (pc' := 51) (x := nI 64) hC ⟨dX4_hash_49, rfl⟩ zc_bipush_64 ?_
                  refine zk_icmp_leN (pc' := 54) hC ⟨dX4_hash_51, rfl⟩ 57 (by decide) (by omega) (by omega) (fun q6 => ?_) (fun q6 => ?_)
                  · exact absurd ⟨h1, h2, h3, q4, q5, q6⟩ hbad
                  · refine zk_bipush (pc' := 56) (x := (-2 : Int32)) hC ⟨dX4_hash_54, rfl⟩ zc_bipush_m2 ?_
                    exact zk_iret (pc' := 57) hC hR rfl rfl rfl ⟨dX4_hash_56, rfl⟩
            · omega
          · skip
            rw [if_neg h3]
            refine zk_if_neN (pc' := 21) hC ⟨dX4_hash_18, rfl⟩ 24 (by decide) (by omega) (fun q => ?_) (fun q => ?_)
            · omega
            · refine zk_bipush (pc' := 23) (x := (-2 : Int32)) hC ⟨dX4_hash_21, rfl⟩ zc_bipush_m2 ?_
              exact zk_iret (pc' := 24) hC hR rfl rfl rfl ⟨dX4_hash_23, rfl⟩
      · skip
        rw [if_neg h2]
        refine zk_if_eqN (pc' := 14) hC ⟨dX4_hash_11, rfl⟩ 21 (by decide) (by omega) (fun q => ?_) (fun q => ?_)
        · refine zk_bipush (pc' := 23) (x := (-2 : Int32)) hC ⟨dX4_hash_21, rfl⟩ zc_bipush_m2 ?_
          exact zk_iret (pc' := 24) hC hR rfl rfl rfl ⟨dX4_hash_23, rfl⟩
        · omega
  · skip
    rw [if_neg h1]
    refine zk_if_eqN (pc' := 7) hC ⟨dX4_hash_4, rfl⟩ 21 (by decide) (by omega) (fun q => ?_) (fun q => ?_)
    · refine zk_bipush (pc' := 23) (x := (-2 : Int32)) hC ⟨dX4_hash_21, rfl⟩ zc_bipush_m2 ?_
      exact zk_iret (pc' := 24) hC hR rfl rfl rfl ⟨dX4_hash_23, rfl⟩
    · omega

def hs_M1 (I : zk_I) (ka e : Nat) : Nat × (Nat → Int32) := if e = 0 then (0, I 24) else bz_zs (bz_pa 1028 (0, I 24) (I ka) e) (128 - e)
theorem hs_M1_le {I : zk_I} {ka e : Nat} : (hs_M1 I ka e).1 ≤ 1028 := by
  unfold hs_M1; split
  · exact Nat.zero_le _
  · exact bz_zs_le (bz_pa_le (Nat.zero_le _) e) _
def hs_M2 (I : zk_I) (ka e f cf : Nat) : Nat × (Nat → Int32) := bz_pa 1028 (hs_M1 I ka e) (I (10 + f)) cf
def hs_T (I : zk_I) (J : zk_J) (p : Nat × (Nat → Int32)) (e n : Nat) : hz_T := (hz_gv (hz_dg p.2 p.1 e n J 27) (0, I 26) n 8, p, hz_dg p.2 p.1 e n J)
theorem hs_T_c {I : zk_I} {J : zk_J} {p : Nat × (Nat → Int32)} {e n : Nat} (hn : n ≤ 64) : (hs_T I J p e n).1.1 = n := by
  unfold hs_T
  dsimp only
  rw [hz_gv_c (Nat.zero_le _)]
  show min 1024 (0 + min n (8 * 8)) = n
  omega

set_option maxHeartbeats 1000000 in
set_option maxRecDepth 100000 in
theorem c_X4_hash_ok (X : zk_X) (I : zk_I) (J : zk_J) {t f n cf e : Nat} (k : Int32) (ht : t < 8) (hf : f < 8) (hk : k = -1 ∨ is_r k) (hn1 : 1 ≤ n) (hn2 : n ≤ 64) (hcf : I (2 + f) 1 = nI cf) (hcf2 : cf ≤ 200) (he : I (rg_p k) 1 = nI e) (hen : e ≤ rg_n k) (he64 : e ≤ 64) : zk_M 0 X yX4_hash cX4_hash 6 ((some .int)) (5, 118) [.ref (zk_ad X 0), .int (nI t), .int (nI f), .int k, .int (nI n)] I J (some (.int (nI n))) (rg_give I t (hs_T I J (hs_M2 I (rg_a k) e f cf) e n)) (hs_T I J (hs_M2 I (rg_a k) e f cf) e n).2.2 := by
  refine zk_M.intro (by decide) (lv := [some (.ref (zk_ad X 0)), some (.int (nI t)), some (.int (nI f)), some (.int k), some (.int (nI n)), none]) rfl rfl (fun E hC hR => ?_)
  obtain ⟨hk1, hk2, hk3, hk4, hk5⟩ := rg_ok k
  have hkb := rg_b k
  refine zk_iload_n (pc' := 1) hC rfl ⟨dX4_hash_0, rfl⟩ ?_
  refine zk_callS1 (pc' := 4) hC ml_X4_39 ms_X4_isRegister (c_X4_isRegister X I J (nI t)) (by decide) rfl rfl (Nat.le_of_ble_eq_true rfl) ⟨dX4_hash_1, rfl⟩ ?_
  rw [if_pos (is_r_nI ht)]
  refine zk_if_eqN (pc' := 7) hC ⟨dX4_hash_4, rfl⟩ 21 (by decide) (by omega) (fun q => ?_) (fun q => ?_)
  · omega
  · refine zk_iload_n (pc' := 8) hC rfl ⟨dX4_hash_7, rfl⟩ ?_
    refine zk_callS1 (pc' := 11) hC ml_X4_39 ms_X4_isRegister (c_X4_isRegister X I J (nI f)) (by decide) rfl rfl (Nat.le_of_ble_eq_true rfl) ⟨dX4_hash_8, rfl⟩ ?_
    rw [if_pos (is_r_nI hf)]
    refine zk_if_eqN (pc' := 14) hC ⟨dX4_hash_11, rfl⟩ 21 (by decide) (by omega) (fun q => ?_) (fun q => ?_)
    · omega
    · refine zk_iload_n (pc' := 15) hC rfl ⟨dX4_hash_14, rfl⟩ ?_
      refine zk_callS1 (pc' := 18) hC ml_X4_62 ms_X4_isRegisterOrNone (c_X4_isRegisterOrNone X I J k) (by decide) rfl rfl (Nat.le_of_ble_eq_true rfl) ⟨dX4_hash_15, rfl⟩ ?_
      rw [if_pos hk]
      refine zk_if_neN (pc' := 21) hC ⟨dX4_hash_18, rfl⟩ 24 (by decide) (by omega) (fun q => ?_) (fun q => ?_)
      · refine zk_aload_n (pc' := 25) hC rfl ⟨dX4_hash_24, rfl⟩ ?_
        refine zk_iload_n (pc' := 26) hC rfl ⟨dX4_hash_25, rfl⟩ ?_
        refine zk_callV1 (pc' := 29) hC ml_X4_43 mi_X4_bytesOf (c_X4_bytesOf X I J k) (by decide) (by first | decide | assumption | omega) (by first | rfl | assumption) rfl rfl rfl (Nat.le_of_ble_eq_true rfl) ⟨dX4_hash_26, rfl⟩ ?_
        refine zk_as5 (pc' := 31) hC ⟨dX4_hash_29, rfl⟩ rfl ?_
        refine zk_iload (pc' := 33) hC rfl ⟨dX4_hash_31, rfl⟩ ?_
        refine zk_iconst (pc' := 34) (x := nI 1) hC ⟨dX4_hash_33, rfl⟩ zc_iconst_1 ?_
        refine zk_icmp_ltN (pc' := 37) hC ⟨dX4_hash_34, rfl⟩ 54 (by decide) (by omega) (by omega) (fun q4 => ?_) (fun q4 => ?_)
        · omega
        · refine zk_iload (pc' := 39) hC rfl ⟨dX4_hash_37, rfl⟩ ?_
          refine zk_bipush (pc' := 41) (x := nI 64) hC ⟨dX4_hash_39, rfl⟩ zc_bipush_64 ?_
          refine zk_icmp_gtN (pc' := 44) hC ⟨dX4_hash_41, rfl⟩ 54 (by decide) (by omega) (by omega) (fun q5 => ?_) (fun q5 => ?_)
          · omega
          · refine zk_aload (pc' := 46) hC rfl ⟨dX4_hash_44, rfl⟩ ?_
            first | refine zk_getiN (pc' := 49) hC fl_X4_47 (by first | decide | assumption | omega) (by first | rfl | assumption) rfl (by first | assumption | (rw [zk_u_s]; rfl) | (rw [hI]; rfl)) ⟨dX4_hash_46, rfl⟩ ?_ | refine zk_geti (pc' := 49) hC fl_X4_47 (by first | decide | assumption | omega) (by first | rfl | assumption) rfl ⟨dX4_hash_46, rfl⟩ ?_
            refine zk_bipush (pc' := 51) (x := nI 64) hC ⟨dX4_hash_49, rfl⟩ zc_bipush_64 ?_
            refine zk_icmp_leN (pc' := 54) hC ⟨dX4_hash_51, rfl⟩ 57 (by decide) (by omega) (by omega) (fun q6 => ?_) (fun q6 => ?_)
            · refine zk_aload_n (pc' := 58) hC rfl ⟨dX4_hash_57, rfl⟩ ?_
              refine zk_getr (pc' := 61) hC fl_X4_28 (by first | decide | assumption | omega) (by first | rfl | assumption) rfl ⟨dX4_hash_58, rfl⟩ ?_
              refine zk_aload (pc' := 63) hC rfl ⟨dX4_hash_61, rfl⟩ ?_
              refine zk_callV0 (pc' := 66) hC ml_X4_65 mi_X2_openWithKey (c_X2_openWithKey X I J (rg_ok k) (by omega) (by omega) he hen he64) (by decide) (by first | decide | assumption | omega) (by first | rfl | assumption) rfl rfl rfl (Nat.le_of_ble_eq_true rfl) ⟨dX4_hash_63, rfl⟩ ?_
              change zk_A 0 X E 66 _ _ (bz_set I 23 24 (hs_M1 I (rg_a k) e)) J
              have hM1 := hs_M1_le (I := I) (ka := rg_a k) (e := e)
              have hM2 : (hs_M2 I (rg_a k) e f cf).1 ≤ 1028 := bz_pa_le hM1 cf
              have hM2d : hs_M2 I (rg_a k) e f cf = bz_pa 1028 (hs_M1 I (rg_a k) e) (I (10 + f)) cf := rfl
              generalize hs_M1 I (rg_a k) e = M1 at hM1 hM2d ⊢
              refine zk_aload_n (pc' := 67) hC rfl ⟨dX4_hash_66, rfl⟩ ?_
              refine zk_getr (pc' := 70) hC fl_X4_28 (by first | decide | assumption | omega) (by first | rfl | assumption) rfl ⟨dX4_hash_67, rfl⟩ ?_
              refine zk_getr (pc' := 73) hC fl_X4_69 (by first | decide | assumption | omega) (by first | rfl | assumption) rfl ⟨dX4_hash_70, rfl⟩ ?_
              refine zk_aload_n (pc' := 74) hC rfl ⟨dX4_hash_73, rfl⟩ ?_
              refine zk_iload_n (pc' := 75) hC rfl ⟨dX4_hash_74, rfl⟩ ?_
              refine zk_callV1 (pc' := 78) hC ml_X4_43 mi_X4_bytesOf (c_X4_bytesOf X _ J (nI f)) (by decide) (by first | decide | assumption | omega) (by first | rfl | assumption) rfl rfl rfl (Nat.le_of_ble_eq_true rfl) ⟨dX4_hash_75, rfl⟩ ?_
              rw [(rg_nI hf).1]
              refine zk_callV0 (pc' := 81) hC ml_X4_72 mi_X0_putAll (c_X0_putAll X (bz_set I 23 24 M1) J bz_msg (bz_reg f hf) (by omega) (by omega) bz_set_c hM1 (by rw [bz_set_o (by omega) (by omega)]; exact hcf) hcf2) (by decide) (by first | decide | assumption | omega) (by first | rfl | assumption) rfl rfl rfl (Nat.le_of_ble_eq_true rfl) ⟨dX4_hash_78, rfl⟩ ?_
              rw [bz_set_f (show 24 ≠ 23 by decide), bz_set_set (show 24 ≠ 23 by decide), bz_set_o (a := 10 + f) (by omega) (by omega), ← hM2d]
              generalize hs_M2 I (rg_a k) e f cf = M2 at hM2 hR ⊢
              have he9 : bz_set I 23 24 M2 (rg_p k) 1 = nI e := by rw [bz_set_o (by omega) (by omega)]; exact he
              refine zk_aload_n (pc' := 82) hC rfl ⟨dX4_hash_81, rfl⟩ ?_
              refine zk_getr (pc' := 85) hC fl_X4_28 (by first | decide | assumption | omega) (by first | rfl | assumption) rfl ⟨dX4_hash_82, rfl⟩ ?_
              refine zk_iload (pc' := 87) hC rfl ⟨dX4_hash_85, rfl⟩ ?_
              refine zk_aload (pc' := 89) hC rfl ⟨dX4_hash_87, rfl⟩ ?_
              first | refine zk_getiN (pc' := 92) hC fl_X4_47 (by first | decide | assumption | omega) (by first | rfl | assumption) rfl (by first | assumption | (rw [zk_u_s]; rfl) | (rw [hI]; rfl)) ⟨dX4_hash_89, rfl⟩ ?_ | refine zk_geti (pc' := 92) hC fl_X4_47 (by first | decide | assumption | omega) (by first | rfl | assumption) rfl ⟨dX4_hash_89, rfl⟩ ?_
              refine zk_callV0 (pc' := 95) hC ml_X4_75 mi_X2_makeShort (c_X2_makeShort X (bz_set I 23 24 M2) J bz_set_c hM2 he64 (n := n) (by omega)) (by decide) (by first | decide | assumption | omega) (by first | rfl | assumption) rfl rfl rfl (Nat.le_of_ble_eq_true rfl) ⟨dX4_hash_92, rfl⟩ ?_
              rw [bz_set_f (show 24 ≠ 23 by decide), bz_set_o (a := 26) (by decide) (by decide), bz_I_m (J := hz_dg M2.2 M2.1 e n J)]
              change zk_A 0 X E 95 _ _ (hz_I I (hs_T I J M2 e n)) (hs_T I J M2 e n).2.2
              have hTc := hs_T_c (I := I) (J := J) (p := M2) (e := e) (n := n) (by omega)
              generalize hs_T I J M2 e n = S at hTc hR ⊢
              refine zk_aload_n (pc' := 96) hC rfl ⟨dX4_hash_95, rfl⟩ ?_
              refine zk_iload_n (pc' := 97) hC rfl ⟨dX4_hash_96, rfl⟩ ?_
              refine zk_callV1 (pc' := 100) hC ml_X4_43 mi_X4_bytesOf (c_X4_bytesOf X _ _ (nI t)) (by decide) (by first | decide | assumption | omega) (by first | rfl | assumption) rfl rfl rfl (Nat.le_of_ble_eq_true rfl) ⟨dX4_hash_97, rfl⟩ ?_
              rw [(rg_nI ht).1]
              refine zk_aload_n (pc' := 101) hC rfl ⟨dX4_hash_100, rfl⟩ ?_
              refine zk_getr (pc' := 104) hC fl_X4_28 (by first | decide | assumption | omega) (by first | rfl | assumption) rfl ⟨dX4_hash_101, rfl⟩ ?_
              refine zk_getr (pc' := 107) hC fl_X4_79 (by first | decide | assumption | omega) (by first | rfl | assumption) rfl ⟨dX4_hash_104, rfl⟩ ?_
              refine zk_callV0 (pc' := 110) hC ml_X4_82 mi_X0_become (c_X0_become X (hz_I I S) _ (bz_reg t ht) bz_made (by omega) (by omega) hz_I_d (by omega)) (by decide) (bz_reg t ht).1 (bz_reg t ht).2.2.1 rfl rfl rfl (Nat.le_of_ble_eq_true rfl) ⟨dX4_hash_107, rfl⟩ ?_
              rw [hz_I_df, hz_I_o (a := 10 + t) (by omega)]
              refine zk_iload (pc' := 112) hC rfl ⟨dX4_hash_110, rfl⟩ ?_
              exact zk_iret (pc' := 113) hC hR rfl rfl rfl ⟨dX4_hash_112, rfl⟩
            · omega
      · omega

set_option maxHeartbeats 1000000 in
set_option maxRecDepth 100000 in
theorem c_X4_longHash_bad (X : zk_X) (I : zk_I) (J : zk_J) (t f n : Int32) (hbad : ¬ (is_r t ∧ is_r f ∧ ¬ n < nI 1 ∧ ¬ nI 200 < n)) : zk_M 0 X yX4_longHash cX4_longHash 4 ((some .int)) (5, 118) [.ref (zk_ad X 0), .int t, .int f, .int n] I J (some (.int (-2))) I J := by
  refine zk_M.intro (by decide) (lv := [some (.ref (zk_ad X 0)), some (.int t), some (.int f), some (.int n)]) rfl rfl (fun E hC hR => ?_)
  refine zk_iload_n (pc' := 1) hC rfl ⟨dX4_longHash_0, rfl⟩ ?_
  refine zk_callS1 (pc' := 4) hC ml_X4_39 ms_X4_isRegister (c_X4_isRegister X I J t) (by decide) rfl rfl (Nat.le_of_ble_eq_true rfl) ⟨dX4_longHash_1, rfl⟩ ?_
  by_cases h1 : is_r t
  · skip
    rw [if_pos h1]
    refine zk_if_eqN (pc' := 7) hC ⟨dX4_longHash_4, rfl⟩ 26 (by decide) (by omega) (fun q => ?_) (fun q => ?_)
    · omega
    · refine zk_iload_n (pc' := 8) hC rfl ⟨dX4_longHash_7, rfl⟩ ?_
      refine zk_callS1 (pc' := 11) hC ml_X4_39 ms_X4_isRegister (c_X4_isRegister X I J f) (by decide) rfl rfl (Nat.le_of_ble_eq_true rfl) ⟨dX4_longHash_8, rfl⟩ ?_
      by_cases h2 : is_r f
      · skip
        rw [if_pos h2]
        refine zk_if_eqN (pc' := 14) hC ⟨dX4_longHash_11, rfl⟩ 26 (by decide) (by omega) (fun q => ?_) (fun q => ?_)
        · omega
        · refine zk_iload_n (pc' := 15) hC rfl ⟨dX4_longHash_14, rfl⟩ ?_
          refine zk_iconst (pc' := 16) (x := nI 1) hC ⟨dX4_longHash_15, rfl⟩ zc_iconst_1 ?_
          refine zk_icmp_lt (pc' := 19) hC ⟨dX4_longHash_16, rfl⟩ 26 (by decide) (fun q3 => ?_) (fun q3 => ?_)
          · refine zk_bipush (pc' := 28) (x := (-2 : Int32)) hC ⟨dX4_longHash_26, rfl⟩ zc_bipush_m2 ?_
            exact zk_iret (pc' := 29) hC hR rfl rfl rfl ⟨dX4_longHash_28, rfl⟩
          · refine zk_iload_n (pc' := 20) hC rfl ⟨dX4_longHash_19, rfl⟩ ?_
            refine zk_sipush (pc' := 23) (x := nI 200) hC ⟨dX4_longHash_20, rfl⟩ zc_sipush_200 ?_
            refine zk_icmp_le (pc' := 26) hC ⟨dX4_longHash_23, rfl⟩ 29 (by decide) (fun q4 => ?_) (fun q4 => ?_)
            · exact absurd ⟨h1, h2, q3, fun z => absurd q4 (Int32.not_le.mpr z)⟩ hbad
            · refine zk_bipush (pc' := 28) (x := (-2 : Int32)) hC ⟨dX4_longHash_26, rfl⟩ zc_bipush_m2 ?_
              exact zk_iret (pc' := 29) hC hR rfl rfl rfl ⟨dX4_longHash_28, rfl⟩
      · skip
        rw [if_neg h2]
        refine zk_if_eqN (pc' := 14) hC ⟨dX4_longHash_11, rfl⟩ 26 (by decide) (by omega) (fun q => ?_) (fun q => ?_)
        · refine zk_bipush (pc' := 28) (x := (-2 : Int32)) hC ⟨dX4_longHash_26, rfl⟩ zc_bipush_m2 ?_
          exact zk_iret (pc' := 29) hC hR rfl rfl rfl ⟨dX4_longHash_28, rfl⟩
        · omega
  · skip
    rw [if_neg h1]
    refine zk_if_eqN (pc' := 7) hC ⟨dX4_longHash_4, rfl⟩ 26 (by decide) (by omega) (fun q => ?_) (fun q => ?_)
    · refine zk_bipush (pc' := 28) (x := (-2 : Int32)) hC ⟨dX4_longHash_26, rfl⟩ zc_bipush_m2 ?_
      exact zk_iret (pc' := 29) hC hR rfl rfl rfl ⟨dX4_longHash_28, rfl⟩
    · omega

def lh_M (I : zk_I) (f cf n : Nat) : Nat × (Nat → Int32) := bz_pa 1028 (bz_pn 1028 (0, I 24) (lN n) 4) (I (10 + f)) cf
theorem lh_M_le {I : zk_I} {f cf n : Nat} : (lh_M I f cf n).1 ≤ 1028 := bz_pa_le (bz_pn_le (Nat.zero_le _) 4) cf

set_option maxHeartbeats 1000000 in
set_option maxRecDepth 100000 in
theorem c_X4_longHash_ok (X : zk_X) (I : zk_I) (J : zk_J) {t f n cf : Nat} (ht : t < 8) (hf : f < 8) (hn1 : 1 ≤ n) (hn2 : n ≤ 200) (hcf : I (2 + f) 1 = nI cf) (hcf2 : cf ≤ 200) : zk_M 0 X yX4_longHash cX4_longHash 4 ((some .int)) (5, 118) [.ref (zk_ad X 0), .int (nI t), .int (nI f), .int (nI n)] I J (some (.int (nI n))) (rg_give I t (hz_LL I J (lh_M I f cf n) n)) (hz_LL I J (lh_M I f cf n) n).2.2 := by
  refine zk_M.intro (by decide) (lv := [some (.ref (zk_ad X 0)), some (.int (nI t)), some (.int (nI f)), some (.int (nI n))]) rfl rfl (fun E hC hR => ?_)
  refine zk_iload_n (pc' := 1) hC rfl ⟨dX4_longHash_0, rfl⟩ ?_
  refine zk_callS1 (pc' := 4) hC ml_X4_39 ms_X4_isRegister (c_X4_isRegister X I J (nI t)) (by decide) rfl rfl (Nat.le_of_ble_eq_true rfl) ⟨dX4_longHash_1, rfl⟩ ?_
  rw [if_pos (is_r_nI ht)]
  refine zk_if_eqN (pc' := 7) hC ⟨dX4_longHash_4, rfl⟩ 26 (by decide) (by omega) (fun q => ?_) (fun q => ?_)
  · omega
  · refine zk_iload_n (pc' := 8) hC rfl ⟨dX4_longHash_7, rfl⟩ ?_
    refine zk_callS1 (pc' := 11) hC ml_X4_39 ms_X4_isRegister (c_X4_isRegister X I J (nI f)) (by decide) rfl rfl (Nat.le_of_ble_eq_true rfl) ⟨dX4_longHash_8, rfl⟩ ?_
    rw [if_pos (is_r_nI hf)]
    refine zk_if_eqN (pc' := 14) hC ⟨dX4_longHash_11, rfl⟩ 26 (by decide) (by omega) (fun q => ?_) (fun q => ?_)
    · omega
    · refine zk_iload_n (pc' := 15) hC rfl ⟨dX4_longHash_14, rfl⟩ ?_
      refine zk_iconst (pc' := 16) (x := nI 1) hC ⟨dX4_longHash_15, rfl⟩ zc_iconst_1 ?_
      refine zk_icmp_ltN (pc' := 19) hC ⟨dX4_longHash_16, rfl⟩ 26 (by decide) (by omega) (by omega) (fun q3 => ?_) (fun q3 => ?_)
      · omega
      · refine zk_iload_n (pc' := 20) hC rfl ⟨dX4_longHash_19, rfl⟩ ?_
        refine zk_sipush (pc' := 23) (x := nI 200) hC ⟨dX4_longHash_20, rfl⟩ zc_sipush_200 ?_
        refine zk_icmp_leN (pc' := 26) hC ⟨dX4_longHash_23, rfl⟩ 29 (by decide) (by omega) (by omega) (fun q4 => ?_) (fun q4 => ?_)
        · refine zk_aload_n (pc' := 30) hC rfl ⟨dX4_longHash_29, rfl⟩ ?_
          refine zk_getr (pc' := 33) hC fl_X4_28 (by first | decide | assumption | omega) (by first | rfl | assumption) rfl ⟨dX4_longHash_30, rfl⟩ ?_
          refine zk_iload_n (pc' := 34) hC rfl ⟨dX4_longHash_33, rfl⟩ ?_
          refine zk_callV0 (pc' := 37) hC ml_X4_85 mi_X2_openLong (c_X2_openLong X I J (n := n) (by omega)) (by decide) (by first | decide | assumption | omega) (by first | rfl | assumption) rfl rfl rfl (Nat.le_of_ble_eq_true rfl) ⟨dX4_longHash_34, rfl⟩ ?_
          have hM2 := lh_M_le (I := I) (f := f) (cf := cf) (n := n)
          have hM2d : lh_M I f cf n = bz_pa 1028 (bz_pn 1028 (0, I 24) (lN n) 4) (I (10 + f)) cf := rfl
          have hM1 : (bz_pn 1028 (0, I 24) (lN n) 4).1 ≤ 1028 := bz_pn_le (Nat.zero_le _) 4
          generalize bz_pn 1028 (0, I 24) (lN n) 4 = M1 at hM1 hM2d ⊢
          refine zk_aload_n (pc' := 38) hC rfl ⟨dX4_longHash_37, rfl⟩ ?_
          refine zk_getr (pc' := 41) hC fl_X4_28 (by first | decide | assumption | omega) (by first | rfl | assumption) rfl ⟨dX4_longHash_38, rfl⟩ ?_
          refine zk_getr (pc' := 44) hC fl_X4_69 (by first | decide | assumption | omega) (by first | rfl | assumption) rfl ⟨dX4_longHash_41, rfl⟩ ?_
          refine zk_aload_n (pc' := 45) hC rfl ⟨dX4_longHash_44, rfl⟩ ?_
          refine zk_iload_n (pc' := 46) hC rfl ⟨dX4_longHash_45, rfl⟩ ?_
          refine zk_callV1 (pc' := 49) hC ml_X4_43 mi_X4_bytesOf (c_X4_bytesOf X _ J (nI f)) (by decide) (by first | decide | assumption | omega) (by first | rfl | assumption) rfl rfl rfl (Nat.le_of_ble_eq_true rfl) ⟨dX4_longHash_46, rfl⟩ ?_
          rw [(rg_nI hf).1]
          refine zk_callV0 (pc' := 52) hC ml_X4_72 mi_X0_putAll (c_X0_putAll X (bz_set I 23 24 M1) J bz_msg (bz_reg f hf) (by omega) (by omega) bz_set_c hM1 (by rw [bz_set_o (by omega) (by omega)]; exact hcf) hcf2) (by decide) (by first | decide | assumption | omega) (by first | rfl | assumption) rfl rfl rfl (Nat.le_of_ble_eq_true rfl) ⟨dX4_longHash_49, rfl⟩ ?_
          rw [bz_set_f (show 24 ≠ 23 by decide), bz_set_set (show 24 ≠ 23 by decide), bz_set_o (a := 10 + f) (by omega) (by omega), ← hM2d]
          generalize lh_M I f cf n = M2 at hM2 hR ⊢
          refine zk_aload_n (pc' := 53) hC rfl ⟨dX4_longHash_52, rfl⟩ ?_
          refine zk_getr (pc' := 56) hC fl_X4_28 (by first | decide | assumption | omega) (by first | rfl | assumption) rfl ⟨dX4_longHash_53, rfl⟩ ?_
          refine zk_iload_n (pc' := 57) hC rfl ⟨dX4_longHash_56, rfl⟩ ?_
          refine zk_callV0 (pc' := 60) hC ml_X4_88 mi_X2_makeLong (c_X2_makeLong X (bz_set I 23 24 M2) J bz_set_c hM2 (n := n) (by omega) (by omega)) (by decide) (by first | decide | assumption | omega) (by first | rfl | assumption) rfl rfl rfl (Nat.le_of_ble_eq_true rfl) ⟨dX4_longHash_57, rfl⟩ ?_
          rw [bz_set_f (show 24 ≠ 23 by decide), bz_set_o (a := 26) (by decide) (by decide), hz_I_m0]
          change zk_A 0 X E 60 _ _ (hz_I I (hz_LL I J M2 n)) (hz_LL I J M2 n).2.2
          have hTc := hz_LL_c (I := I) (J := J) (p := M2) (n := n) hM2 (by omega)
          generalize hz_LL I J M2 n = S at hTc hR ⊢
          refine zk_aload_n (pc' := 61) hC rfl ⟨dX4_longHash_60, rfl⟩ ?_
          refine zk_iload_n (pc' := 62) hC rfl ⟨dX4_longHash_61, rfl⟩ ?_
          refine zk_callV1 (pc' := 65) hC ml_X4_43 mi_X4_bytesOf (c_X4_bytesOf X _ _ (nI t)) (by decide) (by first | decide | assumption | omega) (by first | rfl | assumption) rfl rfl rfl (Nat.le_of_ble_eq_true rfl) ⟨dX4_longHash_62, rfl⟩ ?_
          rw [(rg_nI ht).1]
          refine zk_aload_n (pc' := 66) hC rfl ⟨dX4_longHash_65, rfl⟩ ?_
          refine zk_getr (pc' := 69) hC fl_X4_28 (by first | decide | assumption | omega) (by first | rfl | assumption) rfl ⟨dX4_longHash_66, rfl⟩ ?_
          refine zk_getr (pc' := 72) hC fl_X4_79 (by first | decide | assumption | omega) (by first | rfl | assumption) rfl ⟨dX4_longHash_69, rfl⟩ ?_
          refine zk_callV0 (pc' := 75) hC ml_X4_82 mi_X0_become (c_X0_become X (hz_I I S) _ (bz_reg t ht) bz_made (by omega) (by omega) hz_I_d (by omega)) (by decide) (bz_reg t ht).1 (bz_reg t ht).2.2.1 rfl rfl rfl (Nat.le_of_ble_eq_true rfl) ⟨dX4_longHash_72, rfl⟩ ?_
          rw [hz_I_df, hz_I_o (a := 10 + t) (by omega)]
          refine zk_iload_n (pc' := 76) hC rfl ⟨dX4_longHash_75, rfl⟩ ?_
          exact zk_iret (pc' := 77) hC hR rfl rfl rfl ⟨dX4_longHash_76, rfl⟩
        · omega

def pw_M (p : Nat × (Nat → Int32)) (e : Nat) (g : Nat → Int32) : Nat × (Nat → Int32) := bz_pa 1028 (bz_pn 1028 p (lN e) 4) g e
theorem pw_M_le {p : Nat × (Nat → Int32)} {e : Nat} {g : Nat → Int32} (h : p.1 ≤ 1028) : (pw_M p e g).1 ≤ 1028 := bz_pa_le (bz_pn_le h 4) e

set_option maxHeartbeats 1000000 in
set_option maxRecDepth 100000 in
theorem c_X4_putWithLength (X : zk_X) (I : zk_I) (J : zk_J) {c e : Nat} (k : Int32) (hc : I 23 1 = nI c) (hcn : c ≤ 1028) (he : I (rg_p k) 1 = nI e) (hen : e ≤ rg_n k) : zk_M 0 X yX4_putWithLength cX4_putWithLength 3 none (2, 45) [.ref (zk_ad X 0), .int k] I J none (bz_set I 23 24 (pw_M (c, I 24) e (I (rg_a k)))) J := by
  refine zk_M.intro (by decide) (lv := [some (.ref (zk_ad X 0)), some (.int k), none]) rfl rfl (fun E hC hR => ?_)
  obtain ⟨hk1, hk2, hk3, hk4, hk5⟩ := rg_ok k
  have hkb := rg_b k
  have hd : pw_M (c, I 24) e (I (rg_a k)) = bz_pa 1028 (bz_pn 1028 (c, I 24) (lN e) 4) (I (rg_a k)) e := rfl
  have hM1 : (bz_pn 1028 (c, I 24) (lN e) 4).1 ≤ 1028 := bz_pn_le hcn 4
  have hen2 : e ≤ 200 := Nat.le_trans hen (by unfold rg_n; split <;> omega)
  refine zk_aload_n (pc' := 1) hC rfl ⟨dX4_putWithLength_0, rfl⟩ ?_
  refine zk_iload_n (pc' := 2) hC rfl ⟨dX4_putWithLength_1, rfl⟩ ?_
  refine zk_callV1 (pc' := 5) hC ml_X4_43 mi_X4_bytesOf (c_X4_bytesOf X I J k) (by decide) (by first | decide | assumption | omega) (by first | rfl | assumption) rfl rfl rfl (Nat.le_of_ble_eq_true rfl) ⟨dX4_putWithLength_2, rfl⟩ ?_
  refine zk_as2 (pc' := 6) hC ⟨dX4_putWithLength_5, rfl⟩ rfl ?_
  refine zk_aload_n (pc' := 7) hC rfl ⟨dX4_putWithLength_6, rfl⟩ ?_
  refine zk_getr (pc' := 10) hC fl_X4_28 (by first | decide | assumption | omega) (by first | rfl | assumption) rfl ⟨dX4_putWithLength_7, rfl⟩ ?_
  refine zk_getr (pc' := 13) hC fl_X4_69 (by first | decide | assumption | omega) (by first | rfl | assumption) rfl ⟨dX4_putWithLength_10, rfl⟩ ?_
  refine zk_aload_n (pc' := 14) hC rfl ⟨dX4_putWithLength_13, rfl⟩ ?_
  first | refine zk_getiN (pc' := 17) hC fl_X4_47 (by first | decide | assumption | omega) (by first | rfl | assumption) rfl (by first | assumption | (rw [zk_u_s]; rfl) | (rw [hI]; rfl)) ⟨dX4_putWithLength_14, rfl⟩ ?_ | refine zk_geti (pc' := 17) hC fl_X4_47 (by first | decide | assumption | omega) (by first | rfl | assumption) rfl ⟨dX4_putWithLength_14, rfl⟩ ?_
  first | refine zk_i2lN (pc' := 18) hC ⟨dX4_putWithLength_17, rfl⟩ (by omega) ?_ | refine zk_i2l (pc' := 18) hC ⟨dX4_putWithLength_17, rfl⟩ ?_
  refine zk_iconst (pc' := 19) (x := nI 4) hC ⟨dX4_putWithLength_18, rfl⟩ zc_iconst_4 ?_
  refine zk_callV0 (pc' := 22) hC ml_X4_51 mi_X0_putNumber (c_X0_putNumber X I J bz_msg (q := 4) (lN e) (nI 4) (Or.inl ⟨rfl, by decide⟩) hc hcn) (by decide) (by first | decide | assumption | omega) (by first | rfl | assumption) rfl rfl rfl (Nat.le_of_ble_eq_true rfl) ⟨dX4_putWithLength_19, rfl⟩ ?_
  generalize bz_pn 1028 (c, I 24) (lN e) 4 = M1 at hM1 hd ⊢
  refine zk_aload_n (pc' := 23) hC rfl ⟨dX4_putWithLength_22, rfl⟩ ?_
  refine zk_getr (pc' := 26) hC fl_X4_28 (by first | decide | assumption | omega) (by first | rfl | assumption) rfl ⟨dX4_putWithLength_23, rfl⟩ ?_
  refine zk_getr (pc' := 29) hC fl_X4_69 (by first | decide | assumption | omega) (by first | rfl | assumption) rfl ⟨dX4_putWithLength_26, rfl⟩ ?_
  refine zk_aload_n (pc' := 30) hC rfl ⟨dX4_putWithLength_29, rfl⟩ ?_
  refine zk_callV0 (pc' := 33) hC ml_X4_72 mi_X0_putAll (c_X0_putAll X (bz_set I 23 24 M1) J bz_msg (rg_ok k) (by omega) (by omega) bz_set_c hM1 (by rw [bz_set_o (by omega) (by omega)]; exact he) hen) (by decide) (by first | decide | assumption | omega) (by first | rfl | assumption) rfl rfl rfl (Nat.le_of_ble_eq_true rfl) ⟨dX4_putWithLength_30, rfl⟩ ?_
  rw [bz_set_f (show 24 ≠ 23 by decide), bz_set_set (show 24 ≠ 23 by decide), bz_set_o (a := rg_a k) (by omega) (by omega), ← hd]
  exact zk_vret (pc' := 34) hC hR rfl rfl rfl ⟨dX4_putWithLength_33, rfl⟩

