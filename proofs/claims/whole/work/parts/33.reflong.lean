/-! THE REFERENCE: longTo, hash, longHash -/
def md_ib (n k : Nat) : Int32 := (nI n >>> (nI (8 * k) &&& 31)) &&& nI 255
/-- LONG's first hash, its further ones -/
def md_l0 (I : zk_I) (J : zk_J) (g : Nat → Int32) (sz n m : Nat) : zk_I × zk_J :=
  (md_HI (zk_u I 4 (fz_fill (I 4) (md_ib n) 4)) (md_dg (md_b (I 3) (fz_fill (I 4) (md_ib n) 4) 0 sz) 0 sz m J) g 0 m, md_dg (md_b (I 3) (fz_fill (I 4) (md_ib n) 4) 0 sz) 0 sz m J)
def md_lf (s : zk_I × zk_J) (pl : Nat) : Nat → Int32 := md_cp (s.1 4) 0 (fun k => md_by (s.1 8 (pl + k)).toInt64 0) 64
def md_l1 (s : zk_I × zk_J) (g : Nat → Int32) (pl n : Nat) : zk_I × zk_J :=
  (md_HI (mdm s.1 (md_lf s pl) g) (md_dg (md_b (s.1 3) (md_lf s pl) 0 64) 0 64 (min 64 (n - (pl + 32))) s.2) g (pl + 32) (min 64 (n - (pl + 32))), md_dg (md_b (s.1 3) (md_lf s pl) 0 64) 0 64 (min 64 (n - (pl + 32))) s.2)
def md_lr (s : zk_I × zk_J) (g : Nat → Int32) (n : Nat) : Nat → zk_I × zk_J
  | 0 => s
  | t + 1 => md_l1 (md_lr s g n t) g (32 * t) n
theorem md_HI_0 {I : zk_I} {J : zk_J} {g : Nat → Int32} {pl n : Nat} : md_HI I J g pl n 0 = g := zk_u_s
theorem md_l0_0 {I : zk_I} {J : zk_J} {g : Nat → Int32} {sz n m : Nat} : (md_l0 I J g sz n m).1 0 = g := by unfold md_l0; dsimp only; rw [md_HI_0]
theorem md_l1_0 {s : zk_I × zk_J} {g : Nat → Int32} {pl n : Nat} : (md_l1 s g pl n).1 0 = g := by unfold md_l1; dsimp only; rw [md_HI_0]
theorem md_cp_1 {f g : Nat → Int32} {o : Nat} : md_cp f o g 1 = upd f o (g 0) := by rw [← md_cp_S f o g 0 rfl, md_cp_0, Nat.add_zero]

def md_L (I : zk_I) (J : zk_J) (g g64 : Nat → Int32) (sz n : Nat) : zk_I × zk_J := if n ≤ 64 then md_l0 I J g sz n n else md_lr (md_l0 I J g sz n 64) g64 n (hz_turns n)
set_option maxHeartbeats 1000000 in
set_option maxRecDepth 100000 in
theorem c_X5_longTo (X : zk_X) (I : zk_I) (J : zk_J) {g0 : Nat → Int32} {th sz bg kd ln ps tg sc dn : Nat} (hI : I 0 = md_g g0 th 0 sz bg kd ln ps tg sc dn) {n : Nat} (hsz : sz ≤ 1300) (hn1 : 1 ≤ n) (hn : n ≤ 1024) : zk_M 1 X yX5_longTo cX5_longTo 4 none (4, 102) [.ref (zk_ad X 0), .int (nI n)] I J none (md_L I J (md_g g0 th (0) sz bg kd ln ps tg sc dn) (md_g g0 th (0) (64) bg kd ln ps tg sc dn) sz n).1 (md_L I J (md_g g0 th (0) sz bg kd ln ps tg sc dn) (md_g g0 th (0) (64) bg kd ln ps tg sc dn) sz n).2 := by
  unfold md_L
  refine zk_M.intro (by decide) (lv := [some (.ref (zk_ad X 0)), some (.int (nI n)), none, none]) rfl rfl (fun E hC hR => ?_)
  refine zk_iconst (pc' := 1) (x := nI 0) hC ⟨dX5_longTo_0, rfl⟩ zc_iconst_0 ?_
  refine zk_is2 (pc' := 2) hC ⟨dX5_longTo_1, rfl⟩ rfl ?_
  refine zk_eqI (I' := zk_u I 4 (fz_fill (I 4) (md_ib n) 0)) (by rw [fz_0, zk_u_self]) ?_
  refine zk_up (P := fun k => zk_A 1 X E 2 [some (.ref (zk_ad X 0)), some (.int (nI n)), some (.int (nI k)), none] [] (zk_u I 4 (fz_fill (I 4) (md_ib n) k)) J) 4 ?_ (fun k hk ih => ?_)
  · skip
    refine zk_iload_n (pc' := 3) hC rfl ⟨dX5_longTo_2, rfl⟩ ?_
    refine zk_iconst (pc' := 4) (x := nI 4) hC ⟨dX5_longTo_3, rfl⟩ zc_iconst_4 ?_
    refine zk_icmp_geN (pc' := 7) hC ⟨dX5_longTo_4, rfl⟩ 29 (by decide) (by omega) (by omega) (fun q => ?_) (fun q => ?_)
    · have hI1 : zk_u I 4 (fz_fill (I 4) (md_ib n) 4) 0 = (md_g g0 th (0) sz bg kd ln ps tg sc dn) := by rw [zk_u_n (by decide)]; exact hI
      have hI3 : zk_u I 4 (fz_fill (I 4) (md_ib n) 4) 3 = I 3 := zk_u_n (by decide)
      have hI4 : zk_u I 4 (fz_fill (I 4) (md_ib n) 4) 4 = fz_fill (I 4) (md_ib n) 4 := zk_u_s
      refine zk_iload_n (pc' := 30) hC rfl ⟨dX5_longTo_29, rfl⟩ ?_
      refine zk_bipush (pc' := 32) (x := nI 64) hC ⟨dX5_longTo_30, rfl⟩ zc_bipush_64 ?_
      refine zk_icmp_gtN (pc' := 35) hC ⟨dX5_longTo_32, rfl⟩ 42 (by decide) (by omega) (by omega) (fun q1 => ?_) (fun q1 => ?_)
      · rw [if_neg (by omega)] at hR
        refine zk_aload_n (pc' := 43) hC rfl ⟨dX5_longTo_42, rfl⟩ ?_
        refine zk_iconst (pc' := 44) (x := nI 0) hC ⟨dX5_longTo_43, rfl⟩ zc_iconst_0 ?_
        refine zk_bipush (pc' := 46) (x := nI 64) hC ⟨dX5_longTo_44, rfl⟩ zc_bipush_64 ?_
        refine zk_callV0 (pc' := 49) hC ml_X5_140 mi_X5_hashTo (c_X5_hashTo X _ J hI1 (pl := 0) (n := 64) (by decide) hsz (by decide) (by decide)) (by decide) (by first | decide | assumption | omega) (by first | rfl | assumption) rfl rfl rfl (Nat.le_of_ble_eq_true rfl) ⟨dX5_longTo_46, rfl⟩ ?_
        rw [hI3, hI4]
        change zk_A 1 X E 49 _ _ (md_l0 I J (md_g g0 th (0) sz bg kd ln ps tg sc dn) sz n 64).1 (md_l0 I J (md_g g0 th (0) sz bg kd ln ps tg sc dn) sz n 64).2
        have hg0 : (md_l0 I J (md_g g0 th (0) sz bg kd ln ps tg sc dn) sz n 64).1 0 = (md_g g0 th (0) sz bg kd ln ps tg sc dn) := md_l0_0
        generalize md_l0 I J (md_g g0 th (0) sz bg kd ln ps tg sc dn) sz n 64 = s0 at hR hg0 ⊢
        have hTn : hz_turns n ≤ 30 := by unfold hz_turns; omega
        have hTe : n - 32 * hz_turns n ≤ 64 := by unfold hz_turns; omega
        have hTl : ∀ t, t < hz_turns n → 64 < n - 32 * t := by unfold hz_turns; omega
        have hT3 : 32 * hz_turns n ≤ n := by unfold hz_turns; omega
        generalize hz_turns n = T at hR hTn hTe hTl hT3
        have hgt : ∀ t, ∃ z, (md_lr s0 (md_g g0 th (0) (64) bg kd ln ps tg sc dn) n t).1 0 = (md_g g0 th (0) (z) bg kd ln ps tg sc dn) := fun t => by
          cases t with
          | zero => exact ⟨sz, hg0⟩
          | succ t => exact ⟨64, by rw [md_lr]; exact md_l1_0⟩
        refine zk_iconst (pc' := 50) (x := nI 0) hC ⟨dX5_longTo_49, rfl⟩ zc_iconst_0 ?_
        refine zk_is2 (pc' := 51) hC ⟨dX5_longTo_50, rfl⟩ rfl ?_
        refine zk_up (P := fun t => zk_A 1 X E 51 [some (.ref (zk_ad X 0)), some (.int (nI n)), some (.int (nI (32 * t))), none] [] (md_lr s0 (md_g g0 th (0) (64) bg kd ln ps tg sc dn) n t).1 (md_lr s0 (md_g g0 th (0) (64) bg kd ln ps tg sc dn) n t).2) T ?_ (fun t ht ih => ?_)
        · skip
          refine zk_iload_n (pc' := 52) hC rfl ⟨dX5_longTo_51, rfl⟩ ?_
          refine zk_iload_n (pc' := 53) hC rfl ⟨dX5_longTo_52, rfl⟩ ?_
          first | refine zk_isubN (pc' := 54) hC ⟨dX5_longTo_53, rfl⟩ (by omega) ?_ | refine zk_isub (pc' := 54) hC ⟨dX5_longTo_53, rfl⟩ ?_
          refine zk_bipush (pc' := 56) (x := nI 64) hC ⟨dX5_longTo_54, rfl⟩ zc_bipush_64 ?_
          refine zk_icmp_leN (pc' := 59) hC ⟨dX5_longTo_56, rfl⟩ 119 (by decide) (by omega) (by omega) (fun q2 => ?_) (fun q2 => ?_)
          · exact zk_vret (pc' := 120) hC hR rfl rfl rfl ⟨dX5_longTo_119, rfl⟩
          · omega
        · skip
          have hTl := hTl t ht
          obtain ⟨z, hgz⟩ := hgt t
          revert ih
          show zk_A 1 X E 51 [some (.ref (zk_ad X 0)), some (.int (nI n)), some (.int (nI (32 * (t + 1)))), none] [] (md_l1 (md_lr s0 (md_g g0 th (0) (64) bg kd ln ps tg sc dn) n t) (md_g g0 th (0) (64) bg kd ln ps tg sc dn) (32 * t) n).1 (md_l1 (md_lr s0 (md_g g0 th (0) (64) bg kd ln ps tg sc dn) n t) (md_g g0 th (0) (64) bg kd ln ps tg sc dn) (32 * t) n).2 → _
          generalize md_lr s0 (md_g g0 th (0) (64) bg kd ln ps tg sc dn) n t = s at hgz ⊢
          obtain ⟨I1, J1⟩ := s
          dsimp only at hgz ⊢
          intro ih
          refine zk_iload_n (pc' := 52) hC rfl ⟨dX5_longTo_51, rfl⟩ ?_
          refine zk_iload_n (pc' := 53) hC rfl ⟨dX5_longTo_52, rfl⟩ ?_
          first | refine zk_isubN (pc' := 54) hC ⟨dX5_longTo_53, rfl⟩ (by omega) ?_ | refine zk_isub (pc' := 54) hC ⟨dX5_longTo_53, rfl⟩ ?_
          refine zk_bipush (pc' := 56) (x := nI 64) hC ⟨dX5_longTo_54, rfl⟩ zc_bipush_64 ?_
          refine zk_icmp_leN (pc' := 59) hC ⟨dX5_longTo_56, rfl⟩ 119 (by decide) (by omega) (by omega) (fun q2 => ?_) (fun q2 => ?_)
          · omega
          · refine zk_aload_n (pc' := 60) hC rfl ⟨dX5_longTo_59, rfl⟩ ?_
            refine zk_iconst (pc' := 61) (x := nI 0) hC ⟨dX5_longTo_60, rfl⟩ zc_iconst_0 ?_
            refine zk_puti (pc' := 64) hC fl_X5_109 fp_X5_5 (by first | decide | assumption | omega) (by first | rfl | assumption) rfl rfl rfl ⟨dX5_longTo_61, rfl⟩ ?_
            rw [hgz, md_p5]
            refine zk_eqI (I' := mdm I1 (md_cp (I1 4) 0 (fun k => md_by (I1 8 (32 * t + k)).toInt64 0) 0) (md_g g0 th (0) (0) bg kd ln ps tg sc dn)) (by rw [md_cp_0, mdm, zk_u_self]) ?_
            refine zk_iconst (pc' := 65) (x := nI 0) hC ⟨dX5_longTo_64, rfl⟩ zc_iconst_0 ?_
            refine zk_is3 (pc' := 66) hC ⟨dX5_longTo_65, rfl⟩ rfl ?_
            refine zk_up (P := fun k => zk_A 1 X E 66 [some (.ref (zk_ad X 0)), some (.int (nI n)), some (.int (nI (32 * t))), some (.int (nI k))] [] (mdm I1 (md_cp (I1 4) 0 (fun k => md_by (I1 8 (32 * t + k)).toInt64 0) k) (md_g g0 th (0) (k) bg kd ln ps tg sc dn)) J1) 64 ?_ (fun k hk ihk => ?_)
            · skip
              refine zk_iload_n (pc' := 67) hC rfl ⟨dX5_longTo_66, rfl⟩ ?_
              refine zk_bipush (pc' := 69) (x := nI 64) hC ⟨dX5_longTo_67, rfl⟩ zc_bipush_64 ?_
              refine zk_icmp_geN (pc' := 72) hC ⟨dX5_longTo_69, rfl⟩ 92 (by decide) (by omega) (by omega) (fun q3 => ?_) (fun q3 => ?_)
              · refine zk_fg3 ?_
                refine zk_iincG (pc' := 95) hC ⟨dX5_longTo_92, rfl⟩ rfl ?_
                rw [show nI (32 * t) + Int32.ofInt 32 = nI (32 * t + 32) from nI_add (32 * t) 32]
                change zk_A 1 X E 95 [some (.ref (zk_ad X 0)), some (.int (nI n)), some (.int (nI (32 * t + 32))), none] [] (mdm I1 (md_lf (I1, J1) (32 * t)) (md_g g0 th (0) (64) bg kd ln ps tg sc dn)) J1
                rw [show 32 * (t + 1) = 32 * t + 32 by omega] at ih
                have hM0 := mdm_0 (I := I1) (f := md_lf (I1, J1) (32 * t)) (g := (md_g g0 th (0) (64) bg kd ln ps tg sc dn))
                have hM3 := mdm_o (I := I1) (f := md_lf (I1, J1) (32 * t)) (g := (md_g g0 th (0) (64) bg kd ln ps tg sc dn)) (a := 3) (by decide) (by decide)
                have hM4 := mdm_4 (I := I1) (f := md_lf (I1, J1) (32 * t)) (g := (md_g g0 th (0) (64) bg kd ln ps tg sc dn))
                rw [md_l1] at ih
                dsimp only at ih
                refine zk_aload_n (pc' := 96) hC rfl ⟨dX5_longTo_95, rfl⟩ ?_
                refine zk_iload_n (pc' := 97) hC rfl ⟨dX5_longTo_96, rfl⟩ ?_
                refine zk_iload_n (pc' := 98) hC rfl ⟨dX5_longTo_97, rfl⟩ ?_
                refine zk_iload_n (pc' := 99) hC rfl ⟨dX5_longTo_98, rfl⟩ ?_
                first | refine zk_isubN (pc' := 100) hC ⟨dX5_longTo_99, rfl⟩ (by omega) ?_ | refine zk_isub (pc' := 100) hC ⟨dX5_longTo_99, rfl⟩ ?_
                refine zk_bipush (pc' := 102) (x := nI 64) hC ⟨dX5_longTo_100, rfl⟩ zc_bipush_64 ?_
                refine zk_icmp_leN (pc' := 105) hC ⟨dX5_longTo_102, rfl⟩ 110 (by decide) (by omega) (by omega) (fun q4 => ?_) (fun q4 => ?_)
                · refine zk_iload_n (pc' := 111) hC rfl ⟨dX5_longTo_110, rfl⟩ ?_
                  refine zk_iload_n (pc' := 112) hC rfl ⟨dX5_longTo_111, rfl⟩ ?_
                  first | refine zk_isubN (pc' := 113) hC ⟨dX5_longTo_112, rfl⟩ (by omega) ?_ | refine zk_isub (pc' := 113) hC ⟨dX5_longTo_112, rfl⟩ ?_
                  rw [show n - (32 * t + 32) = min 64 (n - (32 * t + 32)) by omega]
                  refine zk_callV0 (pc' := 116) hC ml_X5_140 mi_X5_hashTo (c_X5_hashTo X _ J1 hM0 (pl := 32 * t + 32) (n := min 64 (n - (32 * t + 32))) (by decide) (by decide) (by omega) (by omega)) (by decide) (by first | decide | assumption | omega) (by first | rfl | assumption) rfl rfl rfl (Nat.le_of_ble_eq_true rfl) ⟨dX5_longTo_113, rfl⟩ ?_
                  rw [hM3, hM4]
                  refine zk_goto (pc' := 119) hC ⟨dX5_longTo_116, rfl⟩ 51 (by decide) ?_
                  exact ih
                · refine zk_bipush (pc' := 107) (x := nI 64) hC ⟨dX5_longTo_105, rfl⟩ zc_bipush_64 ?_
                  refine zk_goto (pc' := 110) hC ⟨dX5_longTo_107, rfl⟩ 113 (by decide) ?_
                  rw [show nI 64 = nI (min 64 (n - (32 * t + 32))) by congr 1; omega]
                  refine zk_callV0 (pc' := 116) hC ml_X5_140 mi_X5_hashTo (c_X5_hashTo X _ J1 hM0 (pl := 32 * t + 32) (n := min 64 (n - (32 * t + 32))) (by decide) (by decide) (by omega) (by omega)) (by decide) (by first | decide | assumption | omega) (by first | rfl | assumption) rfl rfl rfl (Nat.le_of_ble_eq_true rfl) ⟨dX5_longTo_113, rfl⟩ ?_
                  rw [hM3, hM4]
                  refine zk_goto (pc' := 119) hC ⟨dX5_longTo_116, rfl⟩ 51 (by decide) ?_
                  exact ih
              · omega
            · skip
              have hM0 := mdm_0 (I := I1) (f := md_cp (I1 4) 0 (fun k => md_by (I1 8 (32 * t + k)).toInt64 0) k) (g := (md_g g0 th (0) (k) bg kd ln ps tg sc dn))
              refine zk_iload_n (pc' := 67) hC rfl ⟨dX5_longTo_66, rfl⟩ ?_
              refine zk_bipush (pc' := 69) (x := nI 64) hC ⟨dX5_longTo_67, rfl⟩ zc_bipush_64 ?_
              refine zk_icmp_geN (pc' := 72) hC ⟨dX5_longTo_69, rfl⟩ 92 (by decide) (by omega) (by omega) (fun q3 => ?_) (fun q3 => ?_)
              · omega
              · refine zk_aload_n (pc' := 73) hC rfl ⟨dX5_longTo_72, rfl⟩ ?_
                refine zk_iconst (pc' := 74) (x := nI 1) hC ⟨dX5_longTo_73, rfl⟩ zc_iconst_1 ?_
                refine zk_aload_n (pc' := 75) hC rfl ⟨dX5_longTo_74, rfl⟩ ?_
                refine zk_getr (pc' := 78) hC fl_X5_32 (by first | decide | assumption | omega) (by first | rfl | assumption) rfl ⟨dX5_longTo_75, rfl⟩ ?_
                refine zk_iload_n (pc' := 79) hC rfl ⟨dX5_longTo_78, rfl⟩ ?_
                refine zk_iload_n (pc' := 80) hC rfl ⟨dX5_longTo_79, rfl⟩ ?_
                first | refine zk_iaddN (pc' := 81) hC ⟨dX5_longTo_80, rfl⟩ ?_ | refine zk_iadd (pc' := 81) hC ⟨dX5_longTo_80, rfl⟩ ?_
                first | refine zk_ialdU (pc' := 82) hC (by first | decide | assumption | omega) (by first | rfl | assumption) (by omega) (by first | decide | omega) ⟨dX5_longTo_81, rfl⟩ ?_ | refine zk_ialdN (pc' := 82) hC (by first | decide | assumption | omega) (by first | rfl | assumption) (by omega) (by first | decide | omega) ⟨dX5_longTo_81, rfl⟩ ?_ | refine zk_t0N (pc' := 82) hC (by omega) ⟨dX5_longTo_81, rfl⟩ ?_ | refine zk_t2N (pc' := 82) hC (by omega) ⟨dX5_longTo_81, rfl⟩ ?_
                rw [mdm_o (show 8 ≠ 0 by decide) (show 8 ≠ 4 by decide)]
                refine zk_i2l (pc' := 83) hC ⟨dX5_longTo_82, rfl⟩ ?_
                refine zk_callV0 (pc' := 86) hC ml_X5_144 mi_X5_put (c_X5_put X _ J1 hM0 (n := 1) (I1 8 (32 * t + k)).toInt64 (by decide) (by omega)) (by decide) (by first | decide | assumption | omega) (by first | rfl | assumption) rfl rfl rfl (Nat.le_of_ble_eq_true rfl) ⟨dX5_longTo_83, rfl⟩ ?_
                rw [mdm_4, mdm_mdm, md_cp_1, show upd (md_cp (I1 4) 0 (fun k => md_by (I1 8 (32 * t + k)).toInt64 0) k) k (md_by (I1 8 (32 * t + k)).toInt64 0) = md_cp (I1 4) 0 (fun k => md_by (I1 8 (32 * t + k)).toInt64 0) (k + 1) by rw [← md_cp_S _ 0 (fun k => md_by (I1 8 (32 * t + k)).toInt64 0) k rfl, Nat.zero_add]]
                first | refine zk_in3 (pc' := 89) hC ⟨dX5_longTo_86, rfl⟩ ?_ | refine zk_iincG (pc' := 89) hC ⟨dX5_longTo_86, rfl⟩ rfl ?_
                refine zk_goto (pc' := 92) hC ⟨dX5_longTo_89, rfl⟩ 66 (by decide) ?_
                exact ihk
      · rw [if_pos (by omega)] at hR
        refine zk_aload_n (pc' := 36) hC rfl ⟨dX5_longTo_35, rfl⟩ ?_
        refine zk_iconst (pc' := 37) (x := nI 0) hC ⟨dX5_longTo_36, rfl⟩ zc_iconst_0 ?_
        refine zk_iload_n (pc' := 38) hC rfl ⟨dX5_longTo_37, rfl⟩ ?_
        refine zk_callV0 (pc' := 41) hC ml_X5_140 mi_X5_hashTo (c_X5_hashTo X _ J hI1 (pl := 0) (n := n) (by decide) hsz (by omega) (by omega)) (by decide) (by first | decide | assumption | omega) (by first | rfl | assumption) rfl rfl rfl (Nat.le_of_ble_eq_true rfl) ⟨dX5_longTo_38, rfl⟩ ?_
        rw [hI3, hI4]
        exact zk_vret (pc' := 42) hC hR rfl rfl rfl ⟨dX5_longTo_41, rfl⟩
    · omega
  · skip
    refine zk_iload_n (pc' := 3) hC rfl ⟨dX5_longTo_2, rfl⟩ ?_
    refine zk_iconst (pc' := 4) (x := nI 4) hC ⟨dX5_longTo_3, rfl⟩ zc_iconst_4 ?_
    refine zk_icmp_geN (pc' := 7) hC ⟨dX5_longTo_4, rfl⟩ 29 (by decide) (by omega) (by omega) (fun q => ?_) (fun q => ?_)
    · omega
    · refine zk_aload_n (pc' := 8) hC rfl ⟨dX5_longTo_7, rfl⟩ ?_
      refine zk_getr (pc' := 11) hC fl_X5_19 (by first | decide | assumption | omega) (by first | rfl | assumption) rfl ⟨dX5_longTo_8, rfl⟩ ?_
      refine zk_iload_n (pc' := 12) hC rfl ⟨dX5_longTo_11, rfl⟩ ?_
      refine zk_iload_n (pc' := 13) hC rfl ⟨dX5_longTo_12, rfl⟩ ?_
      refine zk_bipush (pc' := 15) (x := nI 8) hC ⟨dX5_longTo_13, rfl⟩ zc_bipush_8 ?_
      refine zk_iload_n (pc' := 16) hC rfl ⟨dX5_longTo_15, rfl⟩ ?_
      first | refine zk_imulN (pc' := 17) hC ⟨dX5_longTo_16, rfl⟩ ?_ | refine zk_imul (pc' := 17) hC ⟨dX5_longTo_16, rfl⟩ ?_
      refine zk_ishr (pc' := 18) hC ⟨dX5_longTo_17, rfl⟩ ?_
      refine zk_sipush (pc' := 21) (x := nI 255) hC ⟨dX5_longTo_18, rfl⟩ zc_sipush_255 ?_
      refine zk_iand (pc' := 22) hC ⟨dX5_longTo_21, rfl⟩ ?_
      first | refine zk_iastU (pc' := 23) hC (by first | decide | assumption | omega) (by first | rfl | assumption) (by omega) (by first | decide | omega) ⟨dX5_longTo_22, rfl⟩ ?_ | refine zk_iastN (pc' := 23) hC (by first | decide | assumption | omega) (by first | rfl | assumption) (by omega) (by first | decide | omega) ⟨dX5_longTo_22, rfl⟩ ?_
      rw [fz_Si _ _ k (x := nI n >>> (nI (8 * k) &&& 31) &&& nI 255) rfl]
      first | refine zk_in2 (pc' := 26) hC ⟨dX5_longTo_23, rfl⟩ ?_ | refine zk_iincG (pc' := 26) hC ⟨dX5_longTo_23, rfl⟩ rfl ?_
      refine zk_goto (pc' := 29) hC ⟨dX5_longTo_26, rfl⟩ 2 (by decide) ?_
      exact ih

set_option maxHeartbeats 1000000 in
set_option maxRecDepth 100000 in
theorem c_X5_hash_bad (X : zk_X) (I : zk_I) (J : zk_J) (t f k n : Int32) {e : Nat} (he : is_r k → I 1 k.toNatClampNeg = nI e) (he0 : k = -1 → e = 0) (he2 : e ≤ 200) (hbad : ¬ (is_r t ∧ is_r f ∧ (k = -1 ∨ is_r k) ∧ ¬ n < nI 1 ∧ ¬ nI 64 < n ∧ e ≤ 64)) : zk_M 1 X yX5_hash cX5_hash 6 ((some .int)) (4, 102) [.ref (zk_ad X 0), .int t, .int f, .int k, .int n] I J (some (.int (-2))) (md_0 I) J := by
  refine zk_M.intro (by decide) (lv := [some (.ref (zk_ad X 0)), some (.int t), some (.int f), some (.int k), some (.int n), none]) rfl rfl (fun E hC hR => ?_)
  refine zk_aload_n (pc' := 1) hC rfl ⟨dX5_hash_0, rfl⟩ ?_
  refine zk_iconst (pc' := 2) (x := nI 0) hC ⟨dX5_hash_1, rfl⟩ zc_iconst_0 ?_
  refine zk_puti (pc' := 5) hC fl_X5_50 fp_X5_0 (by first | decide | assumption | omega) (by first | rfl | assumption) rfl rfl rfl ⟨dX5_hash_2, rfl⟩ ?_
  change zk_A 1 X E 5 _ _ (md_0 I) J
  refine zk_iload_n (pc' := 6) hC rfl ⟨dX5_hash_5, rfl⟩ ?_
  refine zk_callS1 (pc' := 9) hC ml_X5_58 ms_X5_isRegister (c_X5_isRegister X _ J t) (by decide) rfl rfl (Nat.le_of_ble_eq_true rfl) ⟨dX5_hash_6, rfl⟩ ?_
  by_cases h1 : is_r t
  · skip
    rw [if_pos h1]
    refine zk_if_eqN (pc' := 12) hC ⟨dX5_hash_9, rfl⟩ 53 (by decide) (by omega) (fun q => ?_) (fun q => ?_)
    · omega
    · refine zk_iload_n (pc' := 13) hC rfl ⟨dX5_hash_12, rfl⟩ ?_
      refine zk_callS1 (pc' := 16) hC ml_X5_58 ms_X5_isRegister (c_X5_isRegister X _ J f) (by decide) rfl rfl (Nat.le_of_ble_eq_true rfl) ⟨dX5_hash_13, rfl⟩ ?_
      by_cases h2 : is_r f
      · skip
        rw [if_pos h2]
        refine zk_if_eqN (pc' := 19) hC ⟨dX5_hash_16, rfl⟩ 53 (by decide) (by omega) (fun q => ?_) (fun q => ?_)
        · omega
        · refine zk_iload_n (pc' := 20) hC rfl ⟨dX5_hash_19, rfl⟩ ?_
          refine zk_iconst (pc' := 21) (x := (-1 : Int32)) hC ⟨dX5_hash_20, rfl⟩ zc_iconst_m1 ?_
          refine zk_icmp_eq (pc' := 24) hC ⟨dX5_hash_21, rfl⟩ 42 (by decide) (fun q3 => ?_) (fun q3 => ?_)
          · have he64 : e ≤ 64 := by rw [he0 q3]; decide
            refine zk_iload (pc' := 44) hC rfl ⟨dX5_hash_42, rfl⟩ ?_
            refine zk_iconst (pc' := 45) (x := nI 1) hC ⟨dX5_hash_44, rfl⟩ zc_iconst_1 ?_
            refine zk_bipush (pc' := 47) (x := nI 64) hC ⟨dX5_hash_45, rfl⟩ zc_bipush_64 ?_
            refine zk_callS1 (pc' := 50) hC ml_X5_54 ms_X5_in (c_X5_in X _ J n (nI 1) (nI 64)) (by decide) rfl rfl (Nat.le_of_ble_eq_true rfl) ⟨dX5_hash_47, rfl⟩ ?_
            rw [if_neg (fun z => hbad ⟨h1, h2, Or.inl q3, z.1, z.2, he64⟩)]
            refine zk_if_neN (pc' := 53) hC ⟨dX5_hash_50, rfl⟩ 56 (by decide) (by omega) (fun q => ?_) (fun q => ?_)
            · omega
            · refine zk_bipush (pc' := 55) (x := (-2 : Int32)) hC ⟨dX5_hash_53, rfl⟩ zc_bipush_m2 ?_
              exact zk_iret (pc' := 56) hC hR rfl rfl rfl ⟨dX5_hash_55, rfl⟩
          · refine zk_iload_n (pc' := 25) hC rfl ⟨dX5_hash_24, rfl⟩ ?_
            refine zk_callS1 (pc' := 28) hC ml_X5_58 ms_X5_isRegister (c_X5_isRegister X _ J k) (by decide) rfl rfl (Nat.le_of_ble_eq_true rfl) ⟨dX5_hash_25, rfl⟩ ?_
            by_cases h4 : is_r k
            · skip
              rw [if_pos h4]
              refine zk_if_eqN (pc' := 31) hC ⟨dX5_hash_28, rfl⟩ 53 (by decide) (by omega) (fun q => ?_) (fun q => ?_)
              · omega
              · obtain ⟨kk, hkk, rfl⟩ := is_r_of h4
                have hek : md_0 I 1 kk = nI e := by rw [md_0_o (by decide)]; have := he h4; rwa [nI_clamp (by omega)] at this
                refine zk_aload_n (pc' := 32) hC rfl ⟨dX5_hash_31, rfl⟩ ?_
                refine zk_getr (pc' := 35) hC fl_X5_7 (by first | decide | assumption | omega) (by first | rfl | assumption) rfl ⟨dX5_hash_32, rfl⟩ ?_
                refine zk_iload_n (pc' := 36) hC rfl ⟨dX5_hash_35, rfl⟩ ?_
                first | refine zk_ialdU (pc' := 37) hC (by first | decide | assumption | omega) (by first | rfl | assumption) (by omega) (by first | decide | omega) ⟨dX5_hash_36, rfl⟩ ?_ | refine zk_ialdN (pc' := 37) hC (by first | decide | assumption | omega) (by first | rfl | assumption) (by omega) (by first | decide | omega) ⟨dX5_hash_36, rfl⟩ ?_ | refine zk_t0N (pc' := 37) hC (by omega) ⟨dX5_hash_36, rfl⟩ ?_ | refine zk_t2N (pc' := 37) hC (by omega) ⟨dX5_hash_36, rfl⟩ ?_
                rw [hek]
                refine zk_bipush (pc' := 39) (x := nI 64) hC ⟨dX5_hash_37, rfl⟩ zc_bipush_64 ?_
                refine zk_icmp_gtN (pc' := 42) hC ⟨dX5_hash_39, rfl⟩ 53 (by decide) (by omega) (by omega) (fun q5 => ?_) (fun q5 => ?_)
                · refine zk_bipush (pc' := 55) (x := (-2 : Int32)) hC ⟨dX5_hash_53, rfl⟩ zc_bipush_m2 ?_
                  exact zk_iret (pc' := 56) hC hR rfl rfl rfl ⟨dX5_hash_55, rfl⟩
                · refine zk_iload (pc' := 44) hC rfl ⟨dX5_hash_42, rfl⟩ ?_
                  refine zk_iconst (pc' := 45) (x := nI 1) hC ⟨dX5_hash_44, rfl⟩ zc_iconst_1 ?_
                  refine zk_bipush (pc' := 47) (x := nI 64) hC ⟨dX5_hash_45, rfl⟩ zc_bipush_64 ?_
                  refine zk_callS1 (pc' := 50) hC ml_X5_54 ms_X5_in (c_X5_in X _ J n (nI 1) (nI 64)) (by decide) rfl rfl (Nat.le_of_ble_eq_true rfl) ⟨dX5_hash_47, rfl⟩ ?_
                  rw [if_neg (fun z => hbad ⟨h1, h2, Or.inr h4, z.1, z.2, q5⟩)]
                  refine zk_if_neN (pc' := 53) hC ⟨dX5_hash_50, rfl⟩ 56 (by decide) (by omega) (fun q => ?_) (fun q => ?_)
                  · omega
                  · refine zk_bipush (pc' := 55) (x := (-2 : Int32)) hC ⟨dX5_hash_53, rfl⟩ zc_bipush_m2 ?_
                    exact zk_iret (pc' := 56) hC hR rfl rfl rfl ⟨dX5_hash_55, rfl⟩
            · skip
              rw [if_neg h4]
              refine zk_if_eqN (pc' := 31) hC ⟨dX5_hash_28, rfl⟩ 53 (by decide) (by omega) (fun q => ?_) (fun q => ?_)
              · refine zk_bipush (pc' := 55) (x := (-2 : Int32)) hC ⟨dX5_hash_53, rfl⟩ zc_bipush_m2 ?_
                exact zk_iret (pc' := 56) hC hR rfl rfl rfl ⟨dX5_hash_55, rfl⟩
              · omega
      · skip
        rw [if_neg h2]
        refine zk_if_eqN (pc' := 19) hC ⟨dX5_hash_16, rfl⟩ 53 (by decide) (by omega) (fun q => ?_) (fun q => ?_)
        · refine zk_bipush (pc' := 55) (x := (-2 : Int32)) hC ⟨dX5_hash_53, rfl⟩ zc_bipush_m2 ?_
          exact zk_iret (pc' := 56) hC hR rfl rfl rfl ⟨dX5_hash_55, rfl⟩
        · omega
  · skip
    rw [if_neg h1]
    refine zk_if_eqN (pc' := 12) hC ⟨dX5_hash_9, rfl⟩ 53 (by decide) (by omega) (fun q => ?_) (fun q => ?_)
    · refine zk_bipush (pc' := 55) (x := (-2 : Int32)) hC ⟨dX5_hash_53, rfl⟩ zc_bipush_m2 ?_
      exact zk_iret (pc' := 56) hC hR rfl rfl rfl ⟨dX5_hash_55, rfl⟩
    · omega

/-- what is out comes to register t -/
def md_gv (I : zk_I) (t n : Nat) : zk_I := zk_u (zk_u I 2 (md_cp (I 2) (200 * t) (I 8) n)) 1 (upd (I 1) t (nI n))
def md_rb (I : zk_I) (r : Nat) : Nat → Int32 := fun k => I 2 (200 * r + k)
/-- register f is the message, from o on -/
def md_mf (I : zk_I) (o f cf : Nat) : Nat → Int32 := md_cp (I 4) o (md_rb I f) cf
/-- the key's bytes -/
def md_kf (I : zk_I) (k : Int32) (e : Nat) : Nat → Int32 := fz_fill (I 3) (md_rb I k.toNatClampNeg) e
def md_hs (I : zk_I) (J : zk_J) (g : Nat → Int32) (f cf : Nat) (k : Int32) (e n : Nat) : zk_I × zk_J :=
  (md_HI (zk_u (mdm I (md_mf I 0 f cf) g) 3 (md_kf I k e)) (md_dg (md_b (md_kf I k e) (md_mf I 0 f cf) e cf) e cf n J) g 0 n, md_dg (md_b (md_kf I k e) (md_mf I 0 f cf) e cf) e cf n J)
theorem md_HI_g {I : zk_I} {J : zk_J} {g g' : Nat → Int32} {pl n : Nat} : md_HI (zk_u I 0 g) J g' pl n = md_HI I J g' pl n := by
  unfold md_HI
  rw [zk_u_n (show 8 ≠ 0 by decide), zk_u_c _ (show 0 ≠ 8 by decide), zk_u_u]

set_option maxHeartbeats 1000000 in
set_option maxRecDepth 100000 in
theorem c_X5_hash_ok (X : zk_X) (I : zk_I) (J : zk_J) {g0 : Nat → Int32} {th ks sz bg kd ln ps tg sc dn : Nat} (hI : I 0 = md_g g0 th ks sz bg kd ln ps tg sc dn) {t f n cf e : Nat} (k : Int32) (ht : t < 8) (hf : f < 8) (hk : k = -1 ∨ is_r k) (hn1 : 1 ≤ n) (hn2 : n ≤ 64) (hcf : I 1 f = nI cf) (hcf2 : cf ≤ 200) (he : is_r k → I 1 k.toNatClampNeg = nI e) (he0 : k = -1 → e = 0) (he64 : e ≤ 64) : zk_M 1 X yX5_hash cX5_hash 6 ((some .int)) (4, 102) [.ref (zk_ad X 0), .int (nI t), .int (nI f), .int k, .int (nI n)] I J (some (.int (nI n))) (md_gv (md_hs (md_0 I) J (md_g g0 (0) (0) (cf) bg kd ln ps tg sc dn) f cf k e n).1 t n) (md_hs (md_0 I) J (md_g g0 (0) (0) (cf) bg kd ln ps tg sc dn) f cf k e n).2 := by
  refine zk_M.intro (by decide) (lv := [some (.ref (zk_ad X 0)), some (.int (nI t)), some (.int (nI f)), some (.int k), some (.int (nI n)), none]) rfl rfl (fun E hC hR => ?_)
  have hI0 := md_0_g hI
  have hc0 : md_0 I 1 f = nI cf := by rw [md_0_o (by decide)]; exact hcf
  refine zk_aload_n (pc' := 1) hC rfl ⟨dX5_hash_0, rfl⟩ ?_
  refine zk_iconst (pc' := 2) (x := nI 0) hC ⟨dX5_hash_1, rfl⟩ zc_iconst_0 ?_
  refine zk_puti (pc' := 5) hC fl_X5_50 fp_X5_0 (by first | decide | assumption | omega) (by first | rfl | assumption) rfl rfl rfl ⟨dX5_hash_2, rfl⟩ ?_
  change zk_A 1 X E 5 _ _ (md_0 I) J
  refine zk_iload_n (pc' := 6) hC rfl ⟨dX5_hash_5, rfl⟩ ?_
  refine zk_callS1 (pc' := 9) hC ml_X5_58 ms_X5_isRegister (c_X5_isRegister X _ J (nI t)) (by decide) rfl rfl (Nat.le_of_ble_eq_true rfl) ⟨dX5_hash_6, rfl⟩ ?_
  rw [if_pos (is_r_nI ht)]
  refine zk_if_eqN (pc' := 12) hC ⟨dX5_hash_9, rfl⟩ 53 (by decide) (by omega) (fun q => ?_) (fun q => ?_)
  · omega
  · refine zk_iload_n (pc' := 13) hC rfl ⟨dX5_hash_12, rfl⟩ ?_
    refine zk_callS1 (pc' := 16) hC ml_X5_58 ms_X5_isRegister (c_X5_isRegister X _ J (nI f)) (by decide) rfl rfl (Nat.le_of_ble_eq_true rfl) ⟨dX5_hash_13, rfl⟩ ?_
    rw [if_pos (is_r_nI hf)]
    refine zk_if_eqN (pc' := 19) hC ⟨dX5_hash_16, rfl⟩ 53 (by decide) (by omega) (fun q => ?_) (fun q => ?_)
    · omega
    · suffices h56 : zk_A 1 X E 56 [some (.ref (zk_ad X 0)), some (.int (nI t)), some (.int (nI f)), some (.int k), some (.int (nI n)), none] [] (md_0 I) J by
        refine zk_iload_n (pc' := 20) hC rfl ⟨dX5_hash_19, rfl⟩ ?_
        refine zk_iconst (pc' := 21) (x := (-1 : Int32)) hC ⟨dX5_hash_20, rfl⟩ zc_iconst_m1 ?_
        refine zk_icmp_eq (pc' := 24) hC ⟨dX5_hash_21, rfl⟩ 42 (by decide) (fun q3 => ?_) (fun q3 => ?_)
        · refine zk_iload (pc' := 44) hC rfl ⟨dX5_hash_42, rfl⟩ ?_
          refine zk_iconst (pc' := 45) (x := nI 1) hC ⟨dX5_hash_44, rfl⟩ zc_iconst_1 ?_
          refine zk_bipush (pc' := 47) (x := nI 64) hC ⟨dX5_hash_45, rfl⟩ zc_bipush_64 ?_
          refine zk_callS1 (pc' := 50) hC ml_X5_54 ms_X5_in (c_X5_in X _ J (nI n) (nI 1) (nI 64)) (by decide) rfl rfl (Nat.le_of_ble_eq_true rfl) ⟨dX5_hash_47, rfl⟩ ?_
          rw [if_pos ((md_in_nI (by omega) (by decide) (by decide)).mpr ⟨hn1, hn2⟩)]
          refine zk_if_neN (pc' := 53) hC ⟨dX5_hash_50, rfl⟩ 56 (by decide) (by omega) (fun q => ?_) (fun q => ?_)
          · exact h56
          · omega
        · have h4 := hk.resolve_left q3
          refine zk_iload_n (pc' := 25) hC rfl ⟨dX5_hash_24, rfl⟩ ?_
          refine zk_callS1 (pc' := 28) hC ml_X5_58 ms_X5_isRegister (c_X5_isRegister X _ J k) (by decide) rfl rfl (Nat.le_of_ble_eq_true rfl) ⟨dX5_hash_25, rfl⟩ ?_
          rw [if_pos h4]
          refine zk_if_eqN (pc' := 31) hC ⟨dX5_hash_28, rfl⟩ 53 (by decide) (by omega) (fun q => ?_) (fun q => ?_)
          · omega
          · obtain ⟨kk, hkk, rfl⟩ := is_r_of h4
            have hek : md_0 I 1 kk = nI e := by rw [md_0_o (by decide)]; have := he h4; rwa [nI_clamp (by omega)] at this
            refine zk_aload_n (pc' := 32) hC rfl ⟨dX5_hash_31, rfl⟩ ?_
            refine zk_getr (pc' := 35) hC fl_X5_7 (by first | decide | assumption | omega) (by first | rfl | assumption) rfl ⟨dX5_hash_32, rfl⟩ ?_
            refine zk_iload_n (pc' := 36) hC rfl ⟨dX5_hash_35, rfl⟩ ?_
            first | refine zk_ialdU (pc' := 37) hC (by first | decide | assumption | omega) (by first | rfl | assumption) (by omega) (by first | decide | omega) ⟨dX5_hash_36, rfl⟩ ?_ | refine zk_ialdN (pc' := 37) hC (by first | decide | assumption | omega) (by first | rfl | assumption) (by omega) (by first | decide | omega) ⟨dX5_hash_36, rfl⟩ ?_ | refine zk_t0N (pc' := 37) hC (by omega) ⟨dX5_hash_36, rfl⟩ ?_ | refine zk_t2N (pc' := 37) hC (by omega) ⟨dX5_hash_36, rfl⟩ ?_
            rw [hek]
            refine zk_bipush (pc' := 39) (x := nI 64) hC ⟨dX5_hash_37, rfl⟩ zc_bipush_64 ?_
            refine zk_icmp_gtN (pc' := 42) hC ⟨dX5_hash_39, rfl⟩ 53 (by decide) (by omega) (by omega) (fun q5 => ?_) (fun q5 => ?_)
            · omega
            · refine zk_iload (pc' := 44) hC rfl ⟨dX5_hash_42, rfl⟩ ?_
              refine zk_iconst (pc' := 45) (x := nI 1) hC ⟨dX5_hash_44, rfl⟩ zc_iconst_1 ?_
              refine zk_bipush (pc' := 47) (x := nI 64) hC ⟨dX5_hash_45, rfl⟩ zc_bipush_64 ?_
              refine zk_callS1 (pc' := 50) hC ml_X5_54 ms_X5_in (c_X5_in X _ J (nI n) (nI 1) (nI 64)) (by decide) rfl rfl (Nat.le_of_ble_eq_true rfl) ⟨dX5_hash_47, rfl⟩ ?_
              rw [if_pos ((md_in_nI (by omega) (by decide) (by decide)).mpr ⟨hn1, hn2⟩)]
              refine zk_if_neN (pc' := 53) hC ⟨dX5_hash_50, rfl⟩ 56 (by decide) (by omega) (fun q => ?_) (fun q => ?_)
              · exact h56
              · omega
      have hek : is_r k → md_0 I 1 k.toNatClampNeg = nI e := fun h => by rw [md_0_o (by decide)]; exact he h
      generalize md_0 I = I0 at hI0 hc0 hek hR ⊢
      refine zk_aload_n (pc' := 57) hC rfl ⟨dX5_hash_56, rfl⟩ ?_
      refine zk_iconst (pc' := 58) (x := nI 0) hC ⟨dX5_hash_57, rfl⟩ zc_iconst_0 ?_
      refine zk_puti (pc' := 61) hC fl_X5_109 fp_X5_5 (by first | decide | assumption | omega) (by first | rfl | assumption) rfl rfl rfl ⟨dX5_hash_58, rfl⟩ ?_
      rw [hI0, md_p5]
      have hJ0 : zk_u I0 0 (md_g g0 (0) ks (0) bg kd ln ps tg sc dn) 0 = (md_g g0 (0) ks (0) bg kd ln ps tg sc dn) := zk_u_s
      refine zk_aload_n (pc' := 62) hC rfl ⟨dX5_hash_61, rfl⟩ ?_
      refine zk_iload_n (pc' := 63) hC rfl ⟨dX5_hash_62, rfl⟩ ?_
      refine zk_callV0 (pc' := 66) hC ml_X5_148 mi_X5_putRegister (c_X5_putRegister X _ J hJ0 hf (by rw [zk_u_n (by decide)]; exact hc0) hcf2 (by omega)) (by decide) (by first | decide | assumption | omega) (by first | rfl | assumption) rfl rfl rfl (Nat.le_of_ble_eq_true rfl) ⟨dX5_hash_63, rfl⟩ ?_
      rw [zk_u_n (show 4 ≠ 0 by decide), zk_u_n (show 2 ≠ 0 by decide), Nat.zero_add]
      refine zk_eqI (I' := mdm I0 (md_mf I0 0 f cf) (md_g g0 (0) ks (cf) bg kd ln ps tg sc dn)) (by rw [mdm, zk_u_c _ (show 0 ≠ 4 by decide), zk_u_u]; rfl) ?_
      suffices h82 : zk_A 1 X E 82 [some (.ref (zk_ad X 0)), some (.int (nI t)), some (.int (nI f)), some (.int k), some (.int (nI n)), none] [.int (nI e), .ref (zk_ad X 0)] (mdm I0 (md_mf I0 0 f cf) (md_g g0 (0) ks (cf) bg kd ln ps tg sc dn)) J by
        refine zk_aload_n (pc' := 67) hC rfl ⟨dX5_hash_66, rfl⟩ ?_
        refine zk_iload_n (pc' := 68) hC rfl ⟨dX5_hash_67, rfl⟩ ?_
        refine zk_iconst (pc' := 69) (x := (-1 : Int32)) hC ⟨dX5_hash_68, rfl⟩ zc_iconst_m1 ?_
        refine zk_icmp_ne (pc' := 72) hC ⟨dX5_hash_69, rfl⟩ 76 (by decide) (fun q3 => ?_) (fun q3 => ?_)
        · have h4 := hk.resolve_left q3
          have hek2 := hek h4
          obtain ⟨kk, hkk, rfl⟩ := is_r_of h4
          rw [nI_clamp (by omega)] at hek2
          refine zk_aload_n (pc' := 77) hC rfl ⟨dX5_hash_76, rfl⟩ ?_
          refine zk_getr (pc' := 80) hC fl_X5_7 (by first | decide | assumption | omega) (by first | rfl | assumption) rfl ⟨dX5_hash_77, rfl⟩ ?_
          refine zk_iload_n (pc' := 81) hC rfl ⟨dX5_hash_80, rfl⟩ ?_
          first | refine zk_ialdU (pc' := 82) hC (by first | decide | assumption | omega) (by first | rfl | assumption) (by omega) (by first | decide | omega) ⟨dX5_hash_81, rfl⟩ ?_ | refine zk_ialdN (pc' := 82) hC (by first | decide | assumption | omega) (by first | rfl | assumption) (by omega) (by first | decide | omega) ⟨dX5_hash_81, rfl⟩ ?_ | refine zk_t0N (pc' := 82) hC (by omega) ⟨dX5_hash_81, rfl⟩ ?_ | refine zk_t2N (pc' := 82) hC (by omega) ⟨dX5_hash_81, rfl⟩ ?_
          rw [mdm_o (show 1 ≠ 0 by decide) (show 1 ≠ 4 by decide), hek2]
          exact h82
        · refine zk_iconst (pc' := 73) (x := nI 0) hC ⟨dX5_hash_72, rfl⟩ zc_iconst_0 ?_
          refine zk_goto (pc' := 76) hC ⟨dX5_hash_73, rfl⟩ 82 (by decide) ?_
          rw [he0 q3] at h82
          exact h82
      refine zk_puti (pc' := 85) hC fl_X5_106 fp_X5_3 (by first | decide | assumption | omega) (by first | rfl | assumption) rfl rfl rfl ⟨dX5_hash_82, rfl⟩ ?_
      rw [mdm_0, mdm_u0, md_p3]
      have hM0 := mdm_0 (I := I0) (f := md_mf I0 0 f cf) (g := (md_g g0 (0) (e) (cf) bg kd ln ps tg sc dn))
      have hM4 := mdm_4 (I := I0) (f := md_mf I0 0 f cf) (g := (md_g g0 (0) (e) (cf) bg kd ln ps tg sc dn))
      have hM2 := mdm_o (I := I0) (f := md_mf I0 0 f cf) (g := (md_g g0 (0) (e) (cf) bg kd ln ps tg sc dn)) (a := 2) (by decide) (by decide)
      have hM3 := mdm_o (I := I0) (f := md_mf I0 0 f cf) (g := (md_g g0 (0) (e) (cf) bg kd ln ps tg sc dn)) (a := 3) (by decide) (by decide)
      have hfin : md_hs I0 J (md_g g0 (0) (0) (cf) bg kd ln ps tg sc dn) f cf k e n = (md_HI (zk_u (mdm I0 (md_mf I0 0 f cf) (md_g g0 (0) (e) (cf) bg kd ln ps tg sc dn)) 3 (md_kf I0 k e)) (md_dg (md_b (md_kf I0 k e) (md_mf I0 0 f cf) e cf) e cf n J) (md_g g0 (0) (0) (cf) bg kd ln ps tg sc dn) 0 n, md_dg (md_b (md_kf I0 k e) (md_mf I0 0 f cf) e cf) e cf n J) := by
        unfold md_hs
        congr 1
        rw [← mdm_u0 (g := (md_g g0 (0) (0) (cf) bg kd ln ps tg sc dn)) (x := (md_g g0 (0) (e) (cf) bg kd ln ps tg sc dn)), zk_u_c _ (show 0 ≠ 3 by decide), md_HI_g]
      rw [hfin] at hR
      dsimp only at hR
      generalize mdm I0 (md_mf I0 0 f cf) (md_g g0 (0) (e) (cf) bg kd ln ps tg sc dn) = I1 at hR hM0 hM4 hM2 hM3 ⊢
      refine zk_iconst (pc' := 86) (x := nI 0) hC ⟨dX5_hash_85, rfl⟩ zc_iconst_0 ?_
      refine zk_is5 (pc' := 88) hC ⟨dX5_hash_86, rfl⟩ rfl ?_
      refine zk_eqI (I' := zk_u I1 3 (fz_fill (I0 3) (md_rb I0 k.toNatClampNeg) 0)) (by rw [fz_0, ← hM3, zk_u_self]) ?_
      refine zk_up (P := fun i => zk_A 1 X E 88 [some (.ref (zk_ad X 0)), some (.int (nI t)), some (.int (nI f)), some (.int k), some (.int (nI n)), some (.int (nI i))] [] (zk_u I1 3 (fz_fill (I0 3) (md_rb I0 k.toNatClampNeg) i)) J) e ?_ (fun i hi ih => ?_)
      · skip
        change zk_A 1 X E 88 _ _ (zk_u I1 3 (md_kf I0 k e)) J
        have hN0 : zk_u I1 3 (md_kf I0 k e) 0 = (md_g g0 (0) (e) (cf) bg kd ln ps tg sc dn) := (zk_u_n (by decide)).trans hM0
        have hN4 : zk_u I1 3 (md_kf I0 k e) 4 = md_mf I0 0 f cf := (zk_u_n (by decide)).trans hM4
        have hN3 : zk_u I1 3 (md_kf I0 k e) 3 = md_kf I0 k e := zk_u_s
        have hNk : zk_u I1 3 (md_kf I0 k e) 0 3 = nI e := by rw [hN0]; rfl
        generalize zk_u I1 3 (md_kf I0 k e) = I2 at hR hN0 hN4 hN3 hNk ⊢
        refine zk_iload (pc' := 90) hC rfl ⟨dX5_hash_88, rfl⟩ ?_
        refine zk_aload_n (pc' := 91) hC rfl ⟨dX5_hash_90, rfl⟩ ?_
        first | refine zk_getiN (pc' := 94) hC fl_X5_106 (by first | decide | assumption | omega) (by first | rfl | assumption) rfl (by first | assumption | (rw [zk_u_s]; rfl) | (rw [hI]; rfl)) ⟨dX5_hash_91, rfl⟩ ?_ | refine zk_geti (pc' := 94) hC fl_X5_106 (by first | decide | assumption | omega) (by first | rfl | assumption) rfl ⟨dX5_hash_91, rfl⟩ ?_
        refine zk_icmp_geN (pc' := 97) hC ⟨dX5_hash_94, rfl⟩ 123 (by decide) (by omega) (by omega) (fun q6 => ?_) (fun q6 => ?_)
        · refine zk_aload_n (pc' := 124) hC rfl ⟨dX5_hash_123, rfl⟩ ?_
          refine zk_iconst (pc' := 125) (x := nI 0) hC ⟨dX5_hash_124, rfl⟩ zc_iconst_0 ?_
          refine zk_iload (pc' := 127) hC rfl ⟨dX5_hash_125, rfl⟩ ?_
          refine zk_callV0 (pc' := 130) hC ml_X5_140 mi_X5_hashTo (c_X5_hashTo X I2 J hN0 (pl := 0) (n := n) he64 (by omega) hn2 (by omega)) (by decide) (by first | decide | assumption | omega) (by first | rfl | assumption) rfl rfl rfl (Nat.le_of_ble_eq_true rfl) ⟨dX5_hash_127, rfl⟩ ?_
          rw [hN3, hN4]
          refine zk_aload_n (pc' := 131) hC rfl ⟨dX5_hash_130, rfl⟩ ?_
          refine zk_iload_n (pc' := 132) hC rfl ⟨dX5_hash_131, rfl⟩ ?_
          refine zk_iload (pc' := 134) hC rfl ⟨dX5_hash_132, rfl⟩ ?_
          refine zk_callV0 (pc' := 137) hC ml_X5_152 mi_X5_give (c_X5_give X _ _ ht (by omega)) (by decide) (by first | decide | assumption | omega) (by first | rfl | assumption) rfl rfl rfl (Nat.le_of_ble_eq_true rfl) ⟨dX5_hash_134, rfl⟩ ?_
          refine zk_iload (pc' := 139) hC rfl ⟨dX5_hash_137, rfl⟩ ?_
          exact zk_iret (pc' := 140) hC hR rfl rfl rfl ⟨dX5_hash_139, rfl⟩
        · omega
      · skip
        have hNk : zk_u I1 3 (fz_fill (I0 3) (md_rb I0 k.toNatClampNeg) i) 0 3 = nI e := by rw [zk_u_n (by decide), hM0]; rfl
        have h4 : is_r k := hk.resolve_left (fun h => by have := he0 h; omega)
        obtain ⟨kk, hkk, rfl⟩ := is_r_of h4
        rw [nI_clamp (by omega)] at ih ⊢
        rw [nI_clamp (by omega)] at hNk
        refine zk_iload (pc' := 90) hC rfl ⟨dX5_hash_88, rfl⟩ ?_
        refine zk_aload_n (pc' := 91) hC rfl ⟨dX5_hash_90, rfl⟩ ?_
        first | refine zk_getiN (pc' := 94) hC fl_X5_106 (by first | decide | assumption | omega) (by first | rfl | assumption) rfl (by first | assumption | (rw [zk_u_s]; rfl) | (rw [hI]; rfl)) ⟨dX5_hash_91, rfl⟩ ?_ | refine zk_geti (pc' := 94) hC fl_X5_106 (by first | decide | assumption | omega) (by first | rfl | assumption) rfl ⟨dX5_hash_91, rfl⟩ ?_
        refine zk_icmp_geN (pc' := 97) hC ⟨dX5_hash_94, rfl⟩ 123 (by decide) (by omega) (by omega) (fun q6 => ?_) (fun q6 => ?_)
        · omega
        · refine zk_aload_n (pc' := 98) hC rfl ⟨dX5_hash_97, rfl⟩ ?_
          refine zk_getr (pc' := 101) hC fl_X5_16 (by first | decide | assumption | omega) (by first | rfl | assumption) rfl ⟨dX5_hash_98, rfl⟩ ?_
          refine zk_iload (pc' := 103) hC rfl ⟨dX5_hash_101, rfl⟩ ?_
          refine zk_aload_n (pc' := 104) hC rfl ⟨dX5_hash_103, rfl⟩ ?_
          refine zk_getr (pc' := 107) hC fl_X5_13 (by first | decide | assumption | omega) (by first | rfl | assumption) rfl ⟨dX5_hash_104, rfl⟩ ?_
          refine zk_sipush (pc' := 110) (x := nI 200) hC ⟨dX5_hash_107, rfl⟩ zc_sipush_200 ?_
          refine zk_iload_n (pc' := 111) hC rfl ⟨dX5_hash_110, rfl⟩ ?_
          first | refine zk_imulN (pc' := 112) hC ⟨dX5_hash_111, rfl⟩ ?_ | refine zk_imul (pc' := 112) hC ⟨dX5_hash_111, rfl⟩ ?_
          refine zk_iload (pc' := 114) hC rfl ⟨dX5_hash_112, rfl⟩ ?_
          first | refine zk_iaddN (pc' := 115) hC ⟨dX5_hash_114, rfl⟩ ?_ | refine zk_iadd (pc' := 115) hC ⟨dX5_hash_114, rfl⟩ ?_
          first | refine zk_ialdU (pc' := 116) hC (by first | decide | assumption | omega) (by first | rfl | assumption) (by omega) (by first | decide | omega) ⟨dX5_hash_115, rfl⟩ ?_ | refine zk_ialdN (pc' := 116) hC (by first | decide | assumption | omega) (by first | rfl | assumption) (by omega) (by first | decide | omega) ⟨dX5_hash_115, rfl⟩ ?_ | refine zk_t0N (pc' := 116) hC (by omega) ⟨dX5_hash_115, rfl⟩ ?_ | refine zk_t2N (pc' := 116) hC (by omega) ⟨dX5_hash_115, rfl⟩ ?_
          rw [zk_u_n (show 2 ≠ 3 by decide), hM2]
          first | refine zk_iastU (pc' := 117) hC (by first | decide | assumption | omega) (by first | rfl | assumption) (by omega) (by first | decide | omega) ⟨dX5_hash_116, rfl⟩ ?_ | refine zk_iastN (pc' := 117) hC (by first | decide | assumption | omega) (by first | rfl | assumption) (by omega) (by first | decide | omega) ⟨dX5_hash_116, rfl⟩ ?_
          rw [fz_Si _ (md_rb I0 kk) i (x := I0 2 (200 * kk + i)) rfl]
          first | refine zk_in5 (pc' := 120) hC ⟨dX5_hash_117, rfl⟩ ?_ | refine zk_iincG (pc' := 120) hC ⟨dX5_hash_117, rfl⟩ rfl ?_
          refine zk_goto (pc' := 123) hC ⟨dX5_hash_120, rfl⟩ 88 (by decide) ?_
          exact ih

set_option maxHeartbeats 1000000 in
set_option maxRecDepth 100000 in
theorem c_X5_longHash_bad (X : zk_X) (I : zk_I) (J : zk_J) (t f n : Int32) (hbad : ¬ (is_r t ∧ is_r f ∧ ¬ n < nI 1 ∧ ¬ nI 200 < n)) : zk_M 1 X yX5_longHash cX5_longHash 4 ((some .int)) (5, 125) [.ref (zk_ad X 0), .int t, .int f, .int n] I J (some (.int (-2))) (md_0 I) J := by
  refine zk_M.intro (by decide) (lv := [some (.ref (zk_ad X 0)), some (.int t), some (.int f), some (.int n)]) rfl rfl (fun E hC hR => ?_)
  refine zk_aload_n (pc' := 1) hC rfl ⟨dX5_longHash_0, rfl⟩ ?_
  refine zk_iconst (pc' := 2) (x := nI 0) hC ⟨dX5_longHash_1, rfl⟩ zc_iconst_0 ?_
  refine zk_puti (pc' := 5) hC fl_X5_50 fp_X5_0 (by first | decide | assumption | omega) (by first | rfl | assumption) rfl rfl rfl ⟨dX5_longHash_2, rfl⟩ ?_
  change zk_A 1 X E 5 _ _ (md_0 I) J
  refine zk_iload_n (pc' := 6) hC rfl ⟨dX5_longHash_5, rfl⟩ ?_
  refine zk_callS1 (pc' := 9) hC ml_X5_58 ms_X5_isRegister (c_X5_isRegister X _ J t) (by decide) rfl rfl (Nat.le_of_ble_eq_true rfl) ⟨dX5_longHash_6, rfl⟩ ?_
  by_cases h1 : is_r t
  · skip
    rw [if_pos h1]
    refine zk_if_eqN (pc' := 12) hC ⟨dX5_longHash_9, rfl⟩ 30 (by decide) (by omega) (fun q => ?_) (fun q => ?_)
    · omega
    · refine zk_iload_n (pc' := 13) hC rfl ⟨dX5_longHash_12, rfl⟩ ?_
      refine zk_callS1 (pc' := 16) hC ml_X5_58 ms_X5_isRegister (c_X5_isRegister X _ J f) (by decide) rfl rfl (Nat.le_of_ble_eq_true rfl) ⟨dX5_longHash_13, rfl⟩ ?_
      by_cases h2 : is_r f
      · skip
        rw [if_pos h2]
        refine zk_if_eqN (pc' := 19) hC ⟨dX5_longHash_16, rfl⟩ 30 (by decide) (by omega) (fun q => ?_) (fun q => ?_)
        · omega
        · refine zk_iload_n (pc' := 20) hC rfl ⟨dX5_longHash_19, rfl⟩ ?_
          refine zk_iconst (pc' := 21) (x := nI 1) hC ⟨dX5_longHash_20, rfl⟩ zc_iconst_1 ?_
          refine zk_sipush (pc' := 24) (x := nI 200) hC ⟨dX5_longHash_21, rfl⟩ zc_sipush_200 ?_
          refine zk_callS1 (pc' := 27) hC ml_X5_54 ms_X5_in (c_X5_in X _ J n (nI 1) (nI 200)) (by decide) rfl rfl (Nat.le_of_ble_eq_true rfl) ⟨dX5_longHash_24, rfl⟩ ?_
          rw [if_neg (fun z => hbad ⟨h1, h2, z.1, z.2⟩)]
          refine zk_if_neN (pc' := 30) hC ⟨dX5_longHash_27, rfl⟩ 33 (by decide) (by omega) (fun q => ?_) (fun q => ?_)
          · omega
          · refine zk_bipush (pc' := 32) (x := (-2 : Int32)) hC ⟨dX5_longHash_30, rfl⟩ zc_bipush_m2 ?_
            exact zk_iret (pc' := 33) hC hR rfl rfl rfl ⟨dX5_longHash_32, rfl⟩
      · skip
        rw [if_neg h2]
        refine zk_if_eqN (pc' := 19) hC ⟨dX5_longHash_16, rfl⟩ 30 (by decide) (by omega) (fun q => ?_) (fun q => ?_)
        · refine zk_bipush (pc' := 32) (x := (-2 : Int32)) hC ⟨dX5_longHash_30, rfl⟩ zc_bipush_m2 ?_
          exact zk_iret (pc' := 33) hC hR rfl rfl rfl ⟨dX5_longHash_32, rfl⟩
        · omega
  · skip
    rw [if_neg h1]
    refine zk_if_eqN (pc' := 12) hC ⟨dX5_longHash_9, rfl⟩ 30 (by decide) (by omega) (fun q => ?_) (fun q => ?_)
    · refine zk_bipush (pc' := 32) (x := (-2 : Int32)) hC ⟨dX5_longHash_30, rfl⟩ zc_bipush_m2 ?_
      exact zk_iret (pc' := 33) hC hR rfl rfl rfl ⟨dX5_longHash_32, rfl⟩
    · omega

def md_lh (I : zk_I) (J : zk_J) (g g64 : Nat → Int32) (f cf n : Nat) : zk_I × zk_J := md_L (mdm I (md_mf I 4 f cf) g) J g g64 (4 + cf) n

set_option maxHeartbeats 1000000 in
set_option maxRecDepth 100000 in
theorem c_X5_longHash_ok (X : zk_X) (I : zk_I) (J : zk_J) {g0 : Nat → Int32} {th sz bg kd ln ps tg sc dn : Nat} (hI : I 0 = md_g g0 th 0 sz bg kd ln ps tg sc dn) {t f n cf : Nat} (ht : t < 8) (hf : f < 8) (hn1 : 1 ≤ n) (hn2 : n ≤ 200) (hcf : I 1 f = nI cf) (hcf2 : cf ≤ 200) : zk_M 1 X yX5_longHash cX5_longHash 4 ((some .int)) (5, 125) [.ref (zk_ad X 0), .int (nI t), .int (nI f), .int (nI n)] I J (some (.int (nI n))) (md_gv (md_lh (md_0 I) J (md_g g0 (0) (0) (4 + cf) bg kd ln ps tg sc dn) (md_g g0 (0) (0) (64) bg kd ln ps tg sc dn) f cf n).1 t n) (md_lh (md_0 I) J (md_g g0 (0) (0) (4 + cf) bg kd ln ps tg sc dn) (md_g g0 (0) (0) (64) bg kd ln ps tg sc dn) f cf n).2 := by
  refine zk_M.intro (by decide) (lv := [some (.ref (zk_ad X 0)), some (.int (nI t)), some (.int (nI f)), some (.int (nI n))]) rfl rfl (fun E hC hR => ?_)
  have hI0 := md_0_g hI
  have hc0 : md_0 I 1 f = nI cf := by rw [md_0_o (by decide)]; exact hcf
  refine zk_aload_n (pc' := 1) hC rfl ⟨dX5_longHash_0, rfl⟩ ?_
  refine zk_iconst (pc' := 2) (x := nI 0) hC ⟨dX5_longHash_1, rfl⟩ zc_iconst_0 ?_
  refine zk_puti (pc' := 5) hC fl_X5_50 fp_X5_0 (by first | decide | assumption | omega) (by first | rfl | assumption) rfl rfl rfl ⟨dX5_longHash_2, rfl⟩ ?_
  change zk_A 1 X E 5 _ _ (md_0 I) J
  refine zk_iload_n (pc' := 6) hC rfl ⟨dX5_longHash_5, rfl⟩ ?_
  refine zk_callS1 (pc' := 9) hC ml_X5_58 ms_X5_isRegister (c_X5_isRegister X _ J (nI t)) (by decide) rfl rfl (Nat.le_of_ble_eq_true rfl) ⟨dX5_longHash_6, rfl⟩ ?_
  rw [if_pos (is_r_nI ht)]
  refine zk_if_eqN (pc' := 12) hC ⟨dX5_longHash_9, rfl⟩ 30 (by decide) (by omega) (fun q => ?_) (fun q => ?_)
  · omega
  · refine zk_iload_n (pc' := 13) hC rfl ⟨dX5_longHash_12, rfl⟩ ?_
    refine zk_callS1 (pc' := 16) hC ml_X5_58 ms_X5_isRegister (c_X5_isRegister X _ J (nI f)) (by decide) rfl rfl (Nat.le_of_ble_eq_true rfl) ⟨dX5_longHash_13, rfl⟩ ?_
    rw [if_pos (is_r_nI hf)]
    refine zk_if_eqN (pc' := 19) hC ⟨dX5_longHash_16, rfl⟩ 30 (by decide) (by omega) (fun q => ?_) (fun q => ?_)
    · omega
    · refine zk_iload_n (pc' := 20) hC rfl ⟨dX5_longHash_19, rfl⟩ ?_
      refine zk_iconst (pc' := 21) (x := nI 1) hC ⟨dX5_longHash_20, rfl⟩ zc_iconst_1 ?_
      refine zk_sipush (pc' := 24) (x := nI 200) hC ⟨dX5_longHash_21, rfl⟩ zc_sipush_200 ?_
      refine zk_callS1 (pc' := 27) hC ml_X5_54 ms_X5_in (c_X5_in X _ J (nI n) (nI 1) (nI 200)) (by decide) rfl rfl (Nat.le_of_ble_eq_true rfl) ⟨dX5_longHash_24, rfl⟩ ?_
      rw [if_pos ((md_in_nI (by omega) (by decide) (by decide)).mpr ⟨hn1, hn2⟩)]
      refine zk_if_neN (pc' := 30) hC ⟨dX5_longHash_27, rfl⟩ 33 (by decide) (by omega) (fun q => ?_) (fun q => ?_)
      · generalize md_0 I = I0 at hI0 hc0 hR ⊢
        refine zk_aload_n (pc' := 34) hC rfl ⟨dX5_longHash_33, rfl⟩ ?_
        refine zk_iconst (pc' := 35) (x := nI 4) hC ⟨dX5_longHash_34, rfl⟩ zc_iconst_4 ?_
        refine zk_puti (pc' := 38) hC fl_X5_109 fp_X5_5 (by first | decide | assumption | omega) (by first | rfl | assumption) rfl rfl rfl ⟨dX5_longHash_35, rfl⟩ ?_
        rw [hI0, md_p5]
        have hJ0 : zk_u I0 0 (md_g g0 (0) (0) (4) bg kd ln ps tg sc dn) 0 = (md_g g0 (0) (0) (4) bg kd ln ps tg sc dn) := zk_u_s
        refine zk_aload_n (pc' := 39) hC rfl ⟨dX5_longHash_38, rfl⟩ ?_
        refine zk_iload_n (pc' := 40) hC rfl ⟨dX5_longHash_39, rfl⟩ ?_
        refine zk_callV0 (pc' := 43) hC ml_X5_148 mi_X5_putRegister (c_X5_putRegister X _ J hJ0 hf (by rw [zk_u_n (by decide)]; exact hc0) hcf2 (by omega)) (by decide) (by first | decide | assumption | omega) (by first | rfl | assumption) rfl rfl rfl (Nat.le_of_ble_eq_true rfl) ⟨dX5_longHash_40, rfl⟩ ?_
        rw [zk_u_n (show 4 ≠ 0 by decide), zk_u_n (show 2 ≠ 0 by decide)]
        refine zk_eqI (I' := mdm I0 (md_mf I0 4 f cf) (md_g g0 (0) (0) (4 + cf) bg kd ln ps tg sc dn)) (by rw [mdm, zk_u_c _ (show 0 ≠ 4 by decide), zk_u_u]; rfl) ?_
        have hM0 := mdm_0 (I := I0) (f := md_mf I0 4 f cf) (g := (md_g g0 (0) (0) (4 + cf) bg kd ln ps tg sc dn))
        unfold md_lh at hR
        generalize mdm I0 (md_mf I0 4 f cf) (md_g g0 (0) (0) (4 + cf) bg kd ln ps tg sc dn) = I1 at hR hM0 ⊢
        refine zk_aload_n (pc' := 44) hC rfl ⟨dX5_longHash_43, rfl⟩ ?_
        refine zk_iload_n (pc' := 45) hC rfl ⟨dX5_longHash_44, rfl⟩ ?_
        refine zk_callV0 (pc' := 48) hC ml_X5_155 mi_X5_longTo (c_X5_longTo X I1 J hM0 (n := n) (by omega) hn1 (by omega)) (by decide) (by first | decide | assumption | omega) (by first | rfl | assumption) rfl rfl rfl (Nat.le_of_ble_eq_true rfl) ⟨dX5_longHash_45, rfl⟩ ?_
        refine zk_aload_n (pc' := 49) hC rfl ⟨dX5_longHash_48, rfl⟩ ?_
        refine zk_iload_n (pc' := 50) hC rfl ⟨dX5_longHash_49, rfl⟩ ?_
        refine zk_iload_n (pc' := 51) hC rfl ⟨dX5_longHash_50, rfl⟩ ?_
        refine zk_callV0 (pc' := 54) hC ml_X5_152 mi_X5_give (c_X5_give X _ _ ht (by omega)) (by decide) (by first | decide | assumption | omega) (by first | rfl | assumption) rfl rfl rfl (Nat.le_of_ble_eq_true rfl) ⟨dX5_longHash_51, rfl⟩ ?_
        refine zk_iload_n (pc' := 55) hC rfl ⟨dX5_longHash_54, rfl⟩ ?_
        exact zk_iret (pc' := 56) hC hR rfl rfl rfl ⟨dX5_longHash_55, rfl⟩
      · omega

