/-! THE REFERENCE: hashTo, put, longTo -/
def md_all (ks sz : Nat) : Nat := sz + (if ks = 0 then 0 else 128)
def md_k (ks n : Nat) : Int64 := 16842752 ^^^ 256 * lN ks ^^^ lN n
def md_h0 (h : Nat → Int64) (ks n : Nat) : Nat → Int64 := vp_updL (fz_fill h (fun i => zk_start.getD i 0) 8) 0 (fz_fill h (fun i => zk_start.getD i 0) 8 0 ^^^ md_k ks n)
def md_S (bt : Nat → Int32) (al : Nat) (s0 : (Nat → Int64) × (Nat → Int64) × (Nat → Int64)) : Nat → (Nat → Int64) × (Nat → Int64) × (Nat → Int64)
  | 0 => s0
  | p + 1 => (fz_fill (md_S bt al s0 p).1 (md_fd (md_S bt al s0 p).1 (hz_rd (md_v3 (md_S bt al s0 p).2.1 (md_S bt al s0 p).1 (min al ((p + 1) * 128)) (hz_b al p)) (md_W bt (128 * p) (md_S bt al s0 p).2.2) 96)) 8,
      hz_rd (md_v3 (md_S bt al s0 p).2.1 (md_S bt al s0 p).1 (min al ((p + 1) * 128)) (hz_b al p)) (md_W bt (128 * p) (md_S bt al s0 p).2.2) 96,
      md_W bt (128 * p) (md_S bt al s0 p).2.2)
def md_D (bt : Nat → Int32) (ks sz n : Nat) (J : zk_J) : (Nat → Int64) × (Nat → Int64) × (Nat → Int64) := md_S bt (md_all ks sz) (md_h0 (J 5) ks n, J 6, J 7) (hz_parts (md_all ks sz))
def md_dg (bt : Nat → Int32) (ks sz n : Nat) (J : zk_J) : zk_J := md_set J (md_D bt ks sz n J).1 (md_D bt ks sz n J).2.1 (md_D bt ks sz n J).2.2
/-- the bytes of the state -/
def md_ob (h : Nat → Int64) : Nat → Int32 := fun k => md_by (h (k / 8)) (k % 8)
def md_HI (I : zk_I) (J : zk_J) (g : Nat → Int32) (pl n : Nat) : zk_I := zk_u (zk_u I 8 (md_cp (I 8) pl (md_ob (J 5)) n)) 0 g
theorem md_parts {al p : Nat} (h : al ≤ 1500) (hp : p < hz_parts al) : hz_parts al ≤ 12 ∧ (p + 1 < hz_parts al ↔ 128 * p + 128 < al) := by
  unfold hz_parts at *
  omega
theorem zk_p128 (a : Nat) : nI a + Int32.ofInt 128 = nI (a + 128) := nI_add a 128

theorem md_set_set {J : zk_J} {s z v s' z' v' : Nat → Int64} : md_set (md_set J s z v) s' z' v' = md_set J s' z' v' := by
  conv => lhs; unfold md_set
  rw [show zk_u (zk_u (zk_u J 5 s) 7 v) 6 z = md_set J s z v from rfl, md_u5, md_u7, md_u6]
set_option maxHeartbeats 1000000 in
set_option maxRecDepth 100000 in
theorem c_X5_hashTo (X : zk_X) (I : zk_I) (J : zk_J) {g0 : Nat → Int32} {th ks sz bg kd ln ps tg sc dn : Nat} (hI : I 0 = md_g g0 th ks sz bg kd ln ps tg sc dn) {pl n : Nat} (hks : ks ≤ 64) (hsz : sz ≤ 1300) (hn : n ≤ 64) (hpl : pl + n ≤ 1024) : zk_M 1 X yX5_hashTo cX5_hashTo 7 none (3, 76) [.ref (zk_ad X 0), .int (nI pl), .int (nI n)] I J none (md_HI I (md_dg (md_b (I 3) (I 4) ks sz) ks sz n J) (md_g g0 th (0) sz bg kd ln ps tg sc dn) pl n) (md_dg (md_b (I 3) (I 4) ks sz) ks sz n J) := by
  refine zk_M.intro (by decide) (lv := [some (.ref (zk_ad X 0)), some (.int (nI pl)), some (.int (nI n)), none, none, none, none]) rfl rfl (fun E hC hR => ?_)
  refine zk_iconst (pc' := 1) (x := nI 0) hC ⟨dX5_hashTo_0, rfl⟩ zc_iconst_0 ?_
  refine zk_is3 (pc' := 2) hC ⟨dX5_hashTo_1, rfl⟩ rfl ?_
  refine zk_eqJ (J' := zk_u J 5 (fz_fill (J 5) (fun i => zk_start.getD i 0) 0)) (by rw [fz_0, zk_u_self]) ?_
  refine zk_up (P := fun i => zk_A 1 X E 2 [some (.ref (zk_ad X 0)), some (.int (nI pl)), some (.int (nI n)), some (.int (nI i)), none, none, none] [] I (zk_u J 5 (fz_fill (J 5) (fun i => zk_start.getD i 0) i))) 8 ?_ (fun i hi ih => ?_)
  · skip
    refine zk_iload_n (pc' := 3) hC rfl ⟨dX5_hashTo_2, rfl⟩ ?_
    refine zk_bipush (pc' := 5) (x := nI 8) hC ⟨dX5_hashTo_3, rfl⟩ zc_bipush_8 ?_
    refine zk_icmp_geN (pc' := 8) hC ⟨dX5_hashTo_5, rfl⟩ 24 (by decide) (by omega) (by omega) (fun q => ?_) (fun q => ?_)
    · refine zk_aload_n (pc' := 25) hC rfl ⟨dX5_hashTo_24, rfl⟩ ?_
      refine zk_getr (pc' := 28) hC fl_X5_22 (by first | decide | assumption | omega) (by first | rfl | assumption) rfl ⟨dX5_hashTo_25, rfl⟩ ?_
      refine zk_iconst (pc' := 29) (x := nI 0) hC ⟨dX5_hashTo_28, rfl⟩ zc_iconst_0 ?_
      refine zk_dup2 (pc' := 30) hC ⟨dX5_hashTo_29, rfl⟩ rfl rfl ?_
      first | refine zk_laldN (pc' := 31) hC (by first | decide | assumption | omega) (by first | rfl | assumption) (by omega) (by first | decide | omega) ⟨dX5_hashTo_30, rfl⟩ ?_ | refine zk_t1N (pc' := 31) hC (by omega) ⟨dX5_hashTo_30, rfl⟩ ?_
      rw [zk_u_s]
      refine zk_ldc2 (pc' := 34) (x := 16842752) hC ⟨dX5_hashTo_31, rfl⟩ kl_X5_132 ?_
      refine zk_ldc2 (pc' := 37) (x := 256) hC ⟨dX5_hashTo_34, rfl⟩ kl_X5_134 ?_
      refine zk_aload_n (pc' := 38) hC rfl ⟨dX5_hashTo_37, rfl⟩ ?_
      first | refine zk_getiN (pc' := 41) hC fl_X5_106 (by first | decide | assumption | omega) (by first | rfl | assumption) rfl (by first | assumption | (rw [zk_u_s]; rfl) | (rw [hI]; rfl)) ⟨dX5_hashTo_38, rfl⟩ ?_ | refine zk_geti (pc' := 41) hC fl_X5_106 (by first | decide | assumption | omega) (by first | rfl | assumption) rfl ⟨dX5_hashTo_38, rfl⟩ ?_
      first | refine zk_i2lN (pc' := 42) hC ⟨dX5_hashTo_41, rfl⟩ (by omega) ?_ | refine zk_i2l (pc' := 42) hC ⟨dX5_hashTo_41, rfl⟩ ?_
      refine zk_lmul (pc' := 43) hC ⟨dX5_hashTo_42, rfl⟩ ?_
      refine zk_lxor (pc' := 44) hC ⟨dX5_hashTo_43, rfl⟩ ?_
      refine zk_iload_n (pc' := 45) hC rfl ⟨dX5_hashTo_44, rfl⟩ ?_
      first | refine zk_i2lN (pc' := 46) hC ⟨dX5_hashTo_45, rfl⟩ (by omega) ?_ | refine zk_i2l (pc' := 46) hC ⟨dX5_hashTo_45, rfl⟩ ?_
      refine zk_lxor (pc' := 47) hC ⟨dX5_hashTo_46, rfl⟩ ?_
      refine zk_lxor (pc' := 48) hC ⟨dX5_hashTo_47, rfl⟩ ?_
      first | refine zk_lastN (pc' := 49) hC (by first | decide | assumption | omega) (by first | rfl | assumption) (by omega) (by first | decide | omega) ⟨dX5_hashTo_48, rfl⟩ ?_
      refine zk_eqJ (J' := zk_u J 5 (md_h0 (J 5) ks n)) (by rw [zk_u_s, zk_u_u]; rfl) ?_
      refine zk_eqJ (J' := md_set J (md_h0 (J 5) ks n) (J 6) (J 7)) (by rw [← md_u5 (h := J 5), md_set_self]) ?_
      suffices h68 : zk_A 1 X E 68 [some (.ref (zk_ad X 0)), some (.int (nI pl)), some (.int (nI n)), some (.int (nI 8)), none, none, none] [.int (nI (md_all ks sz))] I (md_set J (md_h0 (J 5) ks n) (J 6) (J 7)) by
        refine zk_aload_n (pc' := 50) hC rfl ⟨dX5_hashTo_49, rfl⟩ ?_
        first | refine zk_getiN (pc' := 53) hC fl_X5_109 (by first | decide | assumption | omega) (by first | rfl | assumption) rfl (by first | assumption | (rw [zk_u_s]; rfl) | (rw [hI]; rfl)) ⟨dX5_hashTo_50, rfl⟩ ?_ | refine zk_geti (pc' := 53) hC fl_X5_109 (by first | decide | assumption | omega) (by first | rfl | assumption) rfl ⟨dX5_hashTo_50, rfl⟩ ?_
        refine zk_aload_n (pc' := 54) hC rfl ⟨dX5_hashTo_53, rfl⟩ ?_
        first | refine zk_getiN (pc' := 57) hC fl_X5_106 (by first | decide | assumption | omega) (by first | rfl | assumption) rfl (by first | assumption | (rw [zk_u_s]; rfl) | (rw [hI]; rfl)) ⟨dX5_hashTo_54, rfl⟩ ?_ | refine zk_geti (pc' := 57) hC fl_X5_106 (by first | decide | assumption | omega) (by first | rfl | assumption) rfl ⟨dX5_hashTo_54, rfl⟩ ?_
        refine zk_if_leN (pc' := 60) hC ⟨dX5_hashTo_57, rfl⟩ 66 (by decide) (by omega) (fun q2 => ?_) (fun q2 => ?_)
        · refine zk_iconst (pc' := 67) (x := nI 0) hC ⟨dX5_hashTo_66, rfl⟩ zc_iconst_0 ?_
          first | refine zk_iaddN (pc' := 68) hC ⟨dX5_hashTo_67, rfl⟩ ?_ | refine zk_iadd (pc' := 68) hC ⟨dX5_hashTo_67, rfl⟩ ?_
          rw [md_all, if_pos q2] at h68
          exact h68
        · refine zk_sipush (pc' := 63) (x := nI 128) hC ⟨dX5_hashTo_60, rfl⟩ zc_sipush_128 ?_
          refine zk_goto (pc' := 66) hC ⟨dX5_hashTo_63, rfl⟩ 67 (by decide) ?_
          first | refine zk_iaddN (pc' := 68) hC ⟨dX5_hashTo_67, rfl⟩ ?_ | refine zk_iadd (pc' := 68) hC ⟨dX5_hashTo_67, rfl⟩ ?_
          rw [md_all, if_neg (by omega)] at h68
          exact h68
      have hal : md_all ks sz ≤ 1500 := by unfold md_all; split <;> omega
      unfold md_dg md_D at hR
      generalize md_all ks sz = al at hal hR ⊢
      refine zk_is3 (pc' := 69) hC ⟨dX5_hashTo_68, rfl⟩ rfl ?_
      refine zk_iconst (pc' := 70) (x := nI 0) hC ⟨dX5_hashTo_69, rfl⟩ zc_iconst_0 ?_
      refine zk_is4 (pc' := 72) hC ⟨dX5_hashTo_70, rfl⟩ rfl ?_
      refine zk_iconst (pc' := 73) (x := nI 1) hC ⟨dX5_hashTo_72, rfl⟩ zc_iconst_1 ?_
      refine zk_is5 (pc' := 75) hC ⟨dX5_hashTo_73, rfl⟩ rfl ?_
      have hP1 : 1 ≤ hz_parts al := by unfold hz_parts; omega
      have hP2 : hz_parts al ≤ 12 := by unfold hz_parts; omega
      change zk_A 1 X E 75 [some (.ref (zk_ad X 0)), some (.int (nI pl)), some (.int (nI n)), some (.int (nI al)), some (.int (nI (128 * 0))), some (.int (nI 1)), none] [] I _
      rw [show nI 1 = nI (if 0 < hz_parts al then 1 else 0) by rw [if_pos (show 0 < hz_parts al from hP1)]]
      refine zk_up (P := fun p => zk_A 1 X E 75 [some (.ref (zk_ad X 0)), some (.int (nI pl)), some (.int (nI n)), some (.int (nI al)), some (.int (nI (128 * p))), some (.int (nI (if p < hz_parts al then 1 else 0))), none] [] I (md_set J (md_S (md_b (I 3) (I 4) ks sz) al (md_h0 (J 5) ks n, J 6, J 7) p).1 (md_S (md_b (I 3) (I 4) ks sz) al (md_h0 (J 5) ks n, J 6, J 7) p).2.1 (md_S (md_b (I 3) (I 4) ks sz) al (md_h0 (J 5) ks n, J 6, J 7) p).2.2)) (hz_parts al) ?_ (fun p hp ih => ?_)
      · skip
        rw [if_neg (Nat.lt_irrefl _)]
        refine zk_iload (pc' := 77) hC rfl ⟨dX5_hashTo_75, rfl⟩ ?_
        refine zk_if_eqN (pc' := 80) hC ⟨dX5_hashTo_77, rfl⟩ 137 (by decide) (by omega) (fun q3 => ?_) (fun q3 => ?_)
        · generalize (md_S (md_b (I 3) (I 4) ks sz) al (md_h0 (J 5) ks n, J 6, J 7) (hz_parts al)) = S at hR ⊢
          obtain ⟨h, v, w⟩ := S
          dsimp only at hR ⊢
          rw [md_HI, md_set_h] at hR
          refine zk_iconst (pc' := 138) (x := nI 0) hC ⟨dX5_hashTo_137, rfl⟩ zc_iconst_0 ?_
          refine zk_is6 (pc' := 140) hC ⟨dX5_hashTo_138, rfl⟩ rfl ?_
          refine zk_eqI (I' := zk_u I 8 (md_cp (I 8) pl (md_ob h) 0)) (by rw [md_cp_0, zk_u_self]) ?_
          refine zk_up (P := fun k => zk_A 1 X E 140 [some (.ref (zk_ad X 0)), some (.int (nI pl)), some (.int (nI n)), some (.int (nI al)), some (.int (nI (128 * hz_parts al))), some (.int (nI 0)), some (.int (nI k))] [] (zk_u I 8 (md_cp (I 8) pl (md_ob h) k)) (md_set J h v w)) n ?_ (fun k hk ih => ?_)
          · skip
            refine zk_iload (pc' := 142) hC rfl ⟨dX5_hashTo_140, rfl⟩ ?_
            refine zk_iload_n (pc' := 143) hC rfl ⟨dX5_hashTo_142, rfl⟩ ?_
            refine zk_icmp_geN (pc' := 146) hC ⟨dX5_hashTo_143, rfl⟩ 185 (by decide) (by omega) (by omega) (fun q4 => ?_) (fun q4 => ?_)
            · refine zk_aload_n (pc' := 186) hC rfl ⟨dX5_hashTo_185, rfl⟩ ?_
              refine zk_iconst (pc' := 187) (x := nI 0) hC ⟨dX5_hashTo_186, rfl⟩ zc_iconst_0 ?_
              refine zk_puti (pc' := 190) hC fl_X5_106 fp_X5_3 (by first | decide | assumption | omega) (by first | rfl | assumption) rfl rfl rfl ⟨dX5_hashTo_187, rfl⟩ ?_
              refine zk_eqI (I' := zk_u (zk_u I 8 (md_cp (I 8) pl (md_ob h) n)) 0 (md_g g0 th (0) sz bg kd ln ps tg sc dn)) (by rw [zk_u_n (show 0 ≠ 8 by decide), hI, md_p3]) ?_
              exact zk_vret (pc' := 191) hC hR rfl rfl rfl ⟨dX5_hashTo_190, rfl⟩
            · omega
          · skip
            refine zk_iload (pc' := 142) hC rfl ⟨dX5_hashTo_140, rfl⟩ ?_
            refine zk_iload_n (pc' := 143) hC rfl ⟨dX5_hashTo_142, rfl⟩ ?_
            refine zk_icmp_geN (pc' := 146) hC ⟨dX5_hashTo_143, rfl⟩ 185 (by decide) (by omega) (by omega) (fun q4 => ?_) (fun q4 => ?_)
            · omega
            · refine zk_aload_n (pc' := 147) hC rfl ⟨dX5_hashTo_146, rfl⟩ ?_
              refine zk_getr (pc' := 150) hC fl_X5_32 (by first | decide | assumption | omega) (by first | rfl | assumption) rfl ⟨dX5_hashTo_147, rfl⟩ ?_
              refine zk_iload_n (pc' := 151) hC rfl ⟨dX5_hashTo_150, rfl⟩ ?_
              refine zk_iload (pc' := 153) hC rfl ⟨dX5_hashTo_151, rfl⟩ ?_
              first | refine zk_iaddN (pc' := 154) hC ⟨dX5_hashTo_153, rfl⟩ ?_ | refine zk_iadd (pc' := 154) hC ⟨dX5_hashTo_153, rfl⟩ ?_
              refine zk_aload_n (pc' := 155) hC rfl ⟨dX5_hashTo_154, rfl⟩ ?_
              refine zk_getr (pc' := 158) hC fl_X5_22 (by first | decide | assumption | omega) (by first | rfl | assumption) rfl ⟨dX5_hashTo_155, rfl⟩ ?_
              refine zk_iload (pc' := 160) hC rfl ⟨dX5_hashTo_158, rfl⟩ ?_
              refine zk_bipush (pc' := 162) (x := nI 8) hC ⟨dX5_hashTo_160, rfl⟩ zc_bipush_8 ?_
              first | refine zk_idivN (pc' := 163) hC ⟨dX5_hashTo_162, rfl⟩ (by omega) (by omega) (by omega) ?_ | refine zk_idiv (pc' := 163) hC ⟨dX5_hashTo_162, rfl⟩ (by first | assumption | decide) ?_
              first | refine zk_laldN (pc' := 164) hC (by first | decide | assumption | omega) (by first | rfl | assumption) (by omega) (by first | decide | omega) ⟨dX5_hashTo_163, rfl⟩ ?_ | refine zk_t1N (pc' := 164) hC (by omega) ⟨dX5_hashTo_163, rfl⟩ ?_
              rw [md_set_h]
              refine zk_bipush (pc' := 166) (x := nI 8) hC ⟨dX5_hashTo_164, rfl⟩ zc_bipush_8 ?_
              refine zk_iload (pc' := 168) hC rfl ⟨dX5_hashTo_166, rfl⟩ ?_
              refine zk_bipush (pc' := 170) (x := nI 8) hC ⟨dX5_hashTo_168, rfl⟩ zc_bipush_8 ?_
              first | refine zk_iremN (pc' := 171) hC ⟨dX5_hashTo_170, rfl⟩ (by omega) (by omega) (by omega) ?_ | refine zk_irem (pc' := 171) hC ⟨dX5_hashTo_170, rfl⟩ (by first | assumption | decide) ?_
              first | refine zk_imulN (pc' := 172) hC ⟨dX5_hashTo_171, rfl⟩ ?_ | refine zk_imul (pc' := 172) hC ⟨dX5_hashTo_171, rfl⟩ ?_
              refine zk_lshr (pc' := 173) hC ⟨dX5_hashTo_172, rfl⟩ ?_
              refine zk_ldc2 (pc' := 176) (x := 255) hC ⟨dX5_hashTo_173, rfl⟩ kl_X5_62 ?_
              refine zk_land (pc' := 177) hC ⟨dX5_hashTo_176, rfl⟩ ?_
              refine zk_l2i (pc' := 178) hC ⟨dX5_hashTo_177, rfl⟩ ?_
              first | refine zk_iastN (pc' := 179) hC (by first | decide | assumption | omega) (by first | rfl | assumption) (by omega) (by first | decide | omega) ⟨dX5_hashTo_178, rfl⟩ ?_
              rw [zk_u_s, zk_u_u, md_cp_S _ _ (md_ob h) k (x := (h (k / 8) >>> ((nI (8 * (k % 8))).toInt64 &&& 63) &&& 255).toInt32) rfl]
              first | refine zk_in6 (pc' := 182) hC ⟨dX5_hashTo_179, rfl⟩ ?_ | refine zk_iincG (pc' := 182) hC ⟨dX5_hashTo_179, rfl⟩ rfl ?_
              refine zk_goto (pc' := 185) hC ⟨dX5_hashTo_182, rfl⟩ 140 (by decide) ?_
              exact ih
        · omega
      · skip
        have hpp := (md_parts hal hp).2
        revert ih
        show zk_A 1 X E 75 [some (.ref (zk_ad X 0)), some (.int (nI pl)), some (.int (nI n)), some (.int (nI al)), some (.int (nI (128 * (p + 1)))), some (.int (nI (if p + 1 < hz_parts al then 1 else 0))), none] [] I (md_set J (fz_fill (md_S (md_b (I 3) (I 4) ks sz) al (md_h0 (J 5) ks n, J 6, J 7) p).1 (md_fd (md_S (md_b (I 3) (I 4) ks sz) al (md_h0 (J 5) ks n, J 6, J 7) p).1 (hz_rd (md_v3 (md_S (md_b (I 3) (I 4) ks sz) al (md_h0 (J 5) ks n, J 6, J 7) p).2.1 (md_S (md_b (I 3) (I 4) ks sz) al (md_h0 (J 5) ks n, J 6, J 7) p).1 (min al ((p + 1) * 128)) (hz_b al p)) (md_W (md_b (I 3) (I 4) ks sz) (128 * p) (md_S (md_b (I 3) (I 4) ks sz) al (md_h0 (J 5) ks n, J 6, J 7) p).2.2) 96)) 8) (hz_rd (md_v3 (md_S (md_b (I 3) (I 4) ks sz) al (md_h0 (J 5) ks n, J 6, J 7) p).2.1 (md_S (md_b (I 3) (I 4) ks sz) al (md_h0 (J 5) ks n, J 6, J 7) p).1 (min al ((p + 1) * 128)) (hz_b al p)) (md_W (md_b (I 3) (I 4) ks sz) (128 * p) (md_S (md_b (I 3) (I 4) ks sz) al (md_h0 (J 5) ks n, J 6, J 7) p).2.2) 96) (md_W (md_b (I 3) (I 4) ks sz) (128 * p) (md_S (md_b (I 3) (I 4) ks sz) al (md_h0 (J 5) ks n, J 6, J 7) p).2.2)) → _
        generalize (md_S (md_b (I 3) (I 4) ks sz) al (md_h0 (J 5) ks n, J 6, J 7) p) = S
        obtain ⟨h, v, w⟩ := S
        dsimp only
        rw [if_pos hp]
        intro ih
        refine zk_iload (pc' := 77) hC rfl ⟨dX5_hashTo_75, rfl⟩ ?_
        refine zk_if_eqN (pc' := 80) hC ⟨dX5_hashTo_77, rfl⟩ 137 (by decide) (by omega) (fun q3 => ?_) (fun q3 => ?_)
        · omega
        · refine zk_iload_n (pc' := 81) hC rfl ⟨dX5_hashTo_80, rfl⟩ ?_
          refine zk_iload (pc' := 83) hC rfl ⟨dX5_hashTo_81, rfl⟩ ?_
          refine zk_sipush (pc' := 86) (x := nI 128) hC ⟨dX5_hashTo_83, rfl⟩ zc_sipush_128 ?_
          first | refine zk_iaddN (pc' := 87) hC ⟨dX5_hashTo_86, rfl⟩ ?_ | refine zk_iadd (pc' := 87) hC ⟨dX5_hashTo_86, rfl⟩ ?_
          refine zk_icmp_leN (pc' := 90) hC ⟨dX5_hashTo_87, rfl⟩ 94 (by decide) (by omega) (by omega) (fun q4 => ?_) (fun q4 => ?_)
          · rw [if_neg (by omega), show min al ((p + 1) * 128) = al by omega, show hz_b al p = 1 by unfold hz_b; rw [if_pos (by omega)]] at ih
            refine zk_iconst (pc' := 95) (x := nI 0) hC ⟨dX5_hashTo_94, rfl⟩ zc_iconst_0 ?_
            refine zk_is5 (pc' := 97) hC ⟨dX5_hashTo_95, rfl⟩ rfl ?_
            refine zk_aload_n (pc' := 98) hC rfl ⟨dX5_hashTo_97, rfl⟩ ?_
            refine zk_iload (pc' := 100) hC rfl ⟨dX5_hashTo_98, rfl⟩ ?_
            refine zk_iload (pc' := 102) hC rfl ⟨dX5_hashTo_100, rfl⟩ ?_
            refine zk_if_eqN (pc' := 105) hC ⟨dX5_hashTo_102, rfl⟩ 114 (by decide) (by omega) (fun q5 => ?_) (fun q5 => ?_)
            · refine zk_iload_n (pc' := 115) hC rfl ⟨dX5_hashTo_114, rfl⟩ ?_
              refine zk_iload (pc' := 117) hC rfl ⟨dX5_hashTo_115, rfl⟩ ?_
              refine zk_if_neN (pc' := 120) hC ⟨dX5_hashTo_117, rfl⟩ 124 (by decide) (by omega) (fun q6 => ?_) (fun q6 => ?_)
              · omega
              · refine zk_iconst (pc' := 121) (x := nI 1) hC ⟨dX5_hashTo_120, rfl⟩ zc_iconst_1 ?_
                refine zk_goto (pc' := 124) hC ⟨dX5_hashTo_121, rfl⟩ 125 (by decide) ?_
                refine zk_callV0 (pc' := 128) hC ml_X5_136 mi_X5_part (c_X5_part X I _ hI hks (by omega) (fr := 128 * p) (tk := al) (b := 1) (by omega) (by omega) (by decide)) (by decide) (by first | decide | assumption | omega) (by first | rfl | assumption) rfl rfl rfl (Nat.le_of_ble_eq_true rfl) ⟨dX5_hashTo_125, rfl⟩ ?_
                rw [md_set_h, md_set_v, md_set_w, md_set_set]
                refine zk_iincW (pc' := 134) hC ⟨dX5_hashTo_128, rfl⟩ rfl ?_
                rw [zk_p128]
                change zk_A 1 X E 134 [some (.ref (zk_ad X 0)), some (.int (nI pl)), some (.int (nI n)), some (.int (nI al)), some (.int (nI (128 * p + 128))), _, none] _ _ _
                refine zk_goto (pc' := 137) hC ⟨dX5_hashTo_134, rfl⟩ 75 (by decide) ?_
                rw [show 128 * (p + 1) = 128 * p + 128 by omega] at ih
                exact ih
            · omega
          · rw [if_pos (by omega), show min al ((p + 1) * 128) = 128 * p + 128 by omega, show hz_b al p = 0 by unfold hz_b; rw [if_neg (by omega)]] at ih
            refine zk_iconst (pc' := 91) (x := nI 1) hC ⟨dX5_hashTo_90, rfl⟩ zc_iconst_1 ?_
            refine zk_goto (pc' := 94) hC ⟨dX5_hashTo_91, rfl⟩ 95 (by decide) ?_
            refine zk_is5 (pc' := 97) hC ⟨dX5_hashTo_95, rfl⟩ rfl ?_
            refine zk_aload_n (pc' := 98) hC rfl ⟨dX5_hashTo_97, rfl⟩ ?_
            refine zk_iload (pc' := 100) hC rfl ⟨dX5_hashTo_98, rfl⟩ ?_
            refine zk_iload (pc' := 102) hC rfl ⟨dX5_hashTo_100, rfl⟩ ?_
            refine zk_if_eqN (pc' := 105) hC ⟨dX5_hashTo_102, rfl⟩ 114 (by decide) (by omega) (fun q5 => ?_) (fun q5 => ?_)
            · omega
            · refine zk_iload (pc' := 107) hC rfl ⟨dX5_hashTo_105, rfl⟩ ?_
              refine zk_sipush (pc' := 110) (x := nI 128) hC ⟨dX5_hashTo_107, rfl⟩ zc_sipush_128 ?_
              first | refine zk_iaddN (pc' := 111) hC ⟨dX5_hashTo_110, rfl⟩ ?_ | refine zk_iadd (pc' := 111) hC ⟨dX5_hashTo_110, rfl⟩ ?_
              refine zk_goto (pc' := 114) hC ⟨dX5_hashTo_111, rfl⟩ 115 (by decide) ?_
              refine zk_iload (pc' := 117) hC rfl ⟨dX5_hashTo_115, rfl⟩ ?_
              refine zk_if_neN (pc' := 120) hC ⟨dX5_hashTo_117, rfl⟩ 124 (by decide) (by omega) (fun q6 => ?_) (fun q6 => ?_)
              · refine zk_iconst (pc' := 125) (x := nI 0) hC ⟨dX5_hashTo_124, rfl⟩ zc_iconst_0 ?_
                refine zk_callV0 (pc' := 128) hC ml_X5_136 mi_X5_part (c_X5_part X I _ hI hks (by omega) (fr := 128 * p) (tk := 128 * p + 128) (b := 0) (by omega) (by omega) (by decide)) (by decide) (by first | decide | assumption | omega) (by first | rfl | assumption) rfl rfl rfl (Nat.le_of_ble_eq_true rfl) ⟨dX5_hashTo_125, rfl⟩ ?_
                rw [md_set_h, md_set_v, md_set_w, md_set_set]
                refine zk_iincW (pc' := 134) hC ⟨dX5_hashTo_128, rfl⟩ rfl ?_
                rw [zk_p128]
                change zk_A 1 X E 134 [some (.ref (zk_ad X 0)), some (.int (nI pl)), some (.int (nI n)), some (.int (nI al)), some (.int (nI (128 * p + 128))), _, none] _ _ _
                refine zk_goto (pc' := 137) hC ⟨dX5_hashTo_134, rfl⟩ 75 (by decide) ?_
                rw [show 128 * (p + 1) = 128 * p + 128 by omega] at ih
                exact ih
              · omega
    · omega
  · skip
    refine zk_iload_n (pc' := 3) hC rfl ⟨dX5_hashTo_2, rfl⟩ ?_
    refine zk_bipush (pc' := 5) (x := nI 8) hC ⟨dX5_hashTo_3, rfl⟩ zc_bipush_8 ?_
    refine zk_icmp_geN (pc' := 8) hC ⟨dX5_hashTo_5, rfl⟩ 24 (by decide) (by omega) (by omega) (fun q => ?_) (fun q => ?_)
    · omega
    · refine zk_aload_n (pc' := 9) hC rfl ⟨dX5_hashTo_8, rfl⟩ ?_
      refine zk_getr (pc' := 12) hC fl_X5_22 (by first | decide | assumption | omega) (by first | rfl | assumption) rfl ⟨dX5_hashTo_9, rfl⟩ ?_
      refine zk_iload_n (pc' := 13) hC rfl ⟨dX5_hashTo_12, rfl⟩ ?_
      refine zk_iload_n (pc' := 14) hC rfl ⟨dX5_hashTo_13, rfl⟩ ?_
      refine zk_callS1 (pc' := 17) hC ml_X5_116 ms_X5_start (c_X5_start X I _ i hi) (by decide) rfl rfl (Nat.le_of_ble_eq_true rfl) ⟨dX5_hashTo_14, rfl⟩ ?_
      first | refine zk_lastN (pc' := 18) hC (by first | decide | assumption | omega) (by first | rfl | assumption) (by omega) (by first | decide | omega) ⟨dX5_hashTo_17, rfl⟩ ?_
      rw [zk_u_s, zk_u_u, fz_S _ _ i rfl]
      first | refine zk_in3 (pc' := 21) hC ⟨dX5_hashTo_18, rfl⟩ ?_ | refine zk_iincG (pc' := 21) hC ⟨dX5_hashTo_18, rfl⟩ rfl ?_
      refine zk_goto (pc' := 24) hC ⟨dX5_hashTo_21, rfl⟩ 2 (by decide) ?_
      exact ih

/-- the message and the numbers -/
def mdm (I : zk_I) (f g : Nat → Int32) : zk_I := zk_u (zk_u I 4 f) 0 g
theorem mdm_0 {I : zk_I} {f g : Nat → Int32} : mdm I f g 0 = g := zk_u_s
theorem mdm_4 {I : zk_I} {f g : Nat → Int32} : mdm I f g 4 = f := by rw [mdm, zk_u_n (by decide), zk_u_s]
theorem mdm_o {I : zk_I} {f g : Nat → Int32} {a : Nat} (h : a ≠ 0) (h4 : a ≠ 4) : mdm I f g a = I a := by rw [mdm, zk_u_n h, zk_u_n h4]
theorem mdm_u0 {I : zk_I} {f g x : Nat → Int32} : zk_u (mdm I f g) 0 x = mdm I f x := by rw [mdm, mdm, zk_u_u]
theorem mdm_u4 {I : zk_I} {f g x : Nat → Int32} : zk_u (mdm I f g) 4 x = mdm I x g := by rw [mdm, mdm, zk_u_c _ (show 0 ≠ 4 by decide), zk_u_u]
theorem mdm_self {I : zk_I} : mdm I (I 4) (I 0) = I := by rw [mdm, zk_u_self, zk_u_self]
theorem mdm_mdm {I : zk_I} {f g f' g' : Nat → Int32} : mdm (mdm I f g) f' g' = mdm I f' g' := by
  conv => lhs; unfold mdm
  rw [show zk_u (zk_u I 4 f) 0 g = mdm I f g from rfl, mdm_u4, mdm_u0]

set_option maxHeartbeats 1000000 in
set_option maxRecDepth 100000 in
theorem c_X5_put (X : zk_X) (I : zk_I) (J : zk_J) {g0 : Nat → Int32} {th ks sz bg kd ln ps tg sc dn : Nat} (hI : I 0 = md_g g0 th ks sz bg kd ln ps tg sc dn) {n : Nat} (x : Int64) (hn : n ≤ 8) (hsz : sz + n ≤ 1400) : zk_M 1 X yX5_put cX5_put 5 none (0, 0) [.ref (zk_ad X 0), .int (nI n), .long x] I J none (mdm I (md_cp (I 4) sz (md_by x) n) (md_g g0 th ks (sz + n) bg kd ln ps tg sc dn)) J := by
  refine zk_M.intro (by decide) (lv := [some (.ref (zk_ad X 0)), some (.int (nI n)), some (.long x), none, none]) rfl rfl (fun E hC hR => ?_)
  refine zk_iconst (pc' := 1) (x := nI 0) hC ⟨dX5_put_0, rfl⟩ zc_iconst_0 ?_
  refine zk_is4 (pc' := 3) hC ⟨dX5_put_1, rfl⟩ rfl ?_
  refine zk_eqI (I' := mdm I (md_cp (I 4) sz (md_by x) 0) (md_g g0 th ks (sz + 0) bg kd ln ps tg sc dn)) (by rw [md_cp_0]; show I = mdm I (I 4) (md_g g0 th ks sz bg kd ln ps tg sc dn); rw [← hI, mdm_self]) ?_
  refine zk_up (P := fun k => zk_A 1 X E 3 [some (.ref (zk_ad X 0)), some (.int (nI n)), some (.long x), none, some (.int (nI k))] [] (mdm I (md_cp (I 4) sz (md_by x) k) (md_g g0 th ks (sz + k) bg kd ln ps tg sc dn)) J) n ?_ (fun k hk ih => ?_)
  · skip
    refine zk_iload (pc' := 5) hC rfl ⟨dX5_put_3, rfl⟩ ?_
    refine zk_iload_n (pc' := 6) hC rfl ⟨dX5_put_5, rfl⟩ ?_
    refine zk_icmp_geN (pc' := 9) hC ⟨dX5_put_6, rfl⟩ 46 (by decide) (by omega) (by omega) (fun q => ?_) (fun q => ?_)
    · exact zk_vret (pc' := 47) hC hR rfl rfl rfl ⟨dX5_put_46, rfl⟩
    · omega
  · skip
    have hI := mdm_0 (I := I) (f := md_cp (I 4) sz (md_by x) k) (g := (md_g g0 th ks (sz + k) bg kd ln ps tg sc dn))
    refine zk_iload (pc' := 5) hC rfl ⟨dX5_put_3, rfl⟩ ?_
    refine zk_iload_n (pc' := 6) hC rfl ⟨dX5_put_5, rfl⟩ ?_
    refine zk_icmp_geN (pc' := 9) hC ⟨dX5_put_6, rfl⟩ 46 (by decide) (by omega) (by omega) (fun q => ?_) (fun q => ?_)
    · omega
    · refine zk_aload_n (pc' := 10) hC rfl ⟨dX5_put_9, rfl⟩ ?_
      refine zk_getr (pc' := 13) hC fl_X5_19 (by first | decide | assumption | omega) (by first | rfl | assumption) rfl ⟨dX5_put_10, rfl⟩ ?_
      refine zk_aload_n (pc' := 14) hC rfl ⟨dX5_put_13, rfl⟩ ?_
      first | refine zk_getiN (pc' := 17) hC fl_X5_109 (by first | decide | assumption | omega) (by first | rfl | assumption) rfl (by first | assumption | (rw [zk_u_s]; rfl) | (rw [hI]; rfl)) ⟨dX5_put_14, rfl⟩ ?_ | refine zk_geti (pc' := 17) hC fl_X5_109 (by first | decide | assumption | omega) (by first | rfl | assumption) rfl ⟨dX5_put_14, rfl⟩ ?_
      refine zk_lload_n (pc' := 18) hC rfl ⟨dX5_put_17, rfl⟩ ?_
      refine zk_bipush (pc' := 20) (x := nI 8) hC ⟨dX5_put_18, rfl⟩ zc_bipush_8 ?_
      refine zk_iload (pc' := 22) hC rfl ⟨dX5_put_20, rfl⟩ ?_
      first | refine zk_imulN (pc' := 23) hC ⟨dX5_put_22, rfl⟩ ?_ | refine zk_imul (pc' := 23) hC ⟨dX5_put_22, rfl⟩ ?_
      refine zk_lshr (pc' := 24) hC ⟨dX5_put_23, rfl⟩ ?_
      refine zk_ldc2 (pc' := 27) (x := 255) hC ⟨dX5_put_24, rfl⟩ kl_X5_62 ?_
      refine zk_land (pc' := 28) hC ⟨dX5_put_27, rfl⟩ ?_
      refine zk_l2i (pc' := 29) hC ⟨dX5_put_28, rfl⟩ ?_
      first | refine zk_iastN (pc' := 30) hC (by first | decide | assumption | omega) (by first | rfl | assumption) (by omega) (by first | decide | omega) ⟨dX5_put_29, rfl⟩ ?_
      rw [mdm_4, mdm_u4, md_cp_S _ _ (md_by x) k (x := (x >>> ((nI (8 * k)).toInt64 &&& 63) &&& 255).toInt32) rfl]
      have hI := mdm_0 (I := I) (f := md_cp (I 4) sz (md_by x) (k + 1)) (g := (md_g g0 th ks (sz + k) bg kd ln ps tg sc dn))
      refine zk_aload_n (pc' := 31) hC rfl ⟨dX5_put_30, rfl⟩ ?_
      refine zk_dup (pc' := 32) hC ⟨dX5_put_31, rfl⟩ rfl ?_
      first | refine zk_getiN (pc' := 35) hC fl_X5_109 (by first | decide | assumption | omega) (by first | rfl | assumption) rfl (by first | assumption | (rw [zk_u_s]; rfl) | (rw [hI]; rfl)) ⟨dX5_put_32, rfl⟩ ?_ | refine zk_geti (pc' := 35) hC fl_X5_109 (by first | decide | assumption | omega) (by first | rfl | assumption) rfl ⟨dX5_put_32, rfl⟩ ?_
      refine zk_iconst (pc' := 36) (x := nI 1) hC ⟨dX5_put_35, rfl⟩ zc_iconst_1 ?_
      first | refine zk_iaddN (pc' := 37) hC ⟨dX5_put_36, rfl⟩ ?_ | refine zk_iadd (pc' := 37) hC ⟨dX5_put_36, rfl⟩ ?_
      refine zk_puti (pc' := 40) hC fl_X5_109 fp_X5_5 (by first | decide | assumption | omega) (by first | rfl | assumption) rfl rfl rfl ⟨dX5_put_37, rfl⟩ ?_
      rw [mdm_0, mdm_u0, md_p5]
      first | refine zk_in4 (pc' := 43) hC ⟨dX5_put_40, rfl⟩ ?_ | refine zk_iincG (pc' := 43) hC ⟨dX5_put_40, rfl⟩ rfl ?_
      refine zk_goto (pc' := 46) hC ⟨dX5_put_43, rfl⟩ 3 (by decide) ?_
      exact ih

set_option maxHeartbeats 1000000 in
set_option maxRecDepth 100000 in
theorem c_X5_putRegister (X : zk_X) (I : zk_I) (J : zk_J) {g0 : Nat → Int32} {th ks sz bg kd ln ps tg sc dn : Nat} (hI : I 0 = md_g g0 th ks sz bg kd ln ps tg sc dn) {r c : Nat} (hr : r < 8) (hc : I 1 r = nI c) (hc2 : c ≤ 200) (hsz : sz + c ≤ 1400) : zk_M 1 X yX5_putRegister cX5_putRegister 3 none (0, 0) [.ref (zk_ad X 0), .int (nI r)] I J none (mdm I (md_cp (I 4) sz (fun k => I 2 (200 * r + k)) c) (md_g g0 th ks (sz + c) bg kd ln ps tg sc dn)) J := by
  refine zk_M.intro (by decide) (lv := [some (.ref (zk_ad X 0)), some (.int (nI r)), none]) rfl rfl (fun E hC hR => ?_)
  refine zk_iconst (pc' := 1) (x := nI 0) hC ⟨dX5_putRegister_0, rfl⟩ zc_iconst_0 ?_
  refine zk_is2 (pc' := 2) hC ⟨dX5_putRegister_1, rfl⟩ rfl ?_
  refine zk_eqI (I' := mdm I (md_cp (I 4) sz (fun k => I 2 (200 * r + k)) 0) (md_g g0 th ks (sz + 0) bg kd ln ps tg sc dn)) (by rw [md_cp_0]; show I = mdm I (I 4) (md_g g0 th ks sz bg kd ln ps tg sc dn); rw [← hI, mdm_self]) ?_
  refine zk_up (P := fun k => zk_A 1 X E 2 [some (.ref (zk_ad X 0)), some (.int (nI r)), some (.int (nI k))] [] (mdm I (md_cp (I 4) sz (fun k => I 2 (200 * r + k)) k) (md_g g0 th ks (sz + k) bg kd ln ps tg sc dn)) J) c ?_ (fun k hk ih => ?_)
  · skip
    refine zk_iload_n (pc' := 3) hC rfl ⟨dX5_putRegister_2, rfl⟩ ?_
    refine zk_aload_n (pc' := 4) hC rfl ⟨dX5_putRegister_3, rfl⟩ ?_
    refine zk_getr (pc' := 7) hC fl_X5_7 (by first | decide | assumption | omega) (by first | rfl | assumption) rfl ⟨dX5_putRegister_4, rfl⟩ ?_
    refine zk_iload_n (pc' := 8) hC rfl ⟨dX5_putRegister_7, rfl⟩ ?_
    first | refine zk_ialdN (pc' := 9) hC (by first | decide | assumption | omega) (by first | rfl | assumption) (by omega) (by first | decide | omega) ⟨dX5_putRegister_8, rfl⟩ ?_ | refine zk_t0N (pc' := 9) hC (by omega) ⟨dX5_putRegister_8, rfl⟩ ?_ | refine zk_t2N (pc' := 9) hC (by omega) ⟨dX5_putRegister_8, rfl⟩ ?_
    rw [mdm_o (show 1 ≠ 0 by decide) (show 1 ≠ 4 by decide), hc]
    refine zk_icmp_geN (pc' := 12) hC ⟨dX5_putRegister_9, rfl⟩ 49 (by decide) (by omega) (by omega) (fun q => ?_) (fun q => ?_)
    · exact zk_vret (pc' := 50) hC hR rfl rfl rfl ⟨dX5_putRegister_49, rfl⟩
    · omega
  · skip
    have hI := mdm_0 (I := I) (f := md_cp (I 4) sz (fun k => I 2 (200 * r + k)) k) (g := (md_g g0 th ks (sz + k) bg kd ln ps tg sc dn))
    refine zk_iload_n (pc' := 3) hC rfl ⟨dX5_putRegister_2, rfl⟩ ?_
    refine zk_aload_n (pc' := 4) hC rfl ⟨dX5_putRegister_3, rfl⟩ ?_
    refine zk_getr (pc' := 7) hC fl_X5_7 (by first | decide | assumption | omega) (by first | rfl | assumption) rfl ⟨dX5_putRegister_4, rfl⟩ ?_
    refine zk_iload_n (pc' := 8) hC rfl ⟨dX5_putRegister_7, rfl⟩ ?_
    first | refine zk_ialdN (pc' := 9) hC (by first | decide | assumption | omega) (by first | rfl | assumption) (by omega) (by first | decide | omega) ⟨dX5_putRegister_8, rfl⟩ ?_ | refine zk_t0N (pc' := 9) hC (by omega) ⟨dX5_putRegister_8, rfl⟩ ?_ | refine zk_t2N (pc' := 9) hC (by omega) ⟨dX5_putRegister_8, rfl⟩ ?_
    rw [mdm_o (show 1 ≠ 0 by decide) (show 1 ≠ 4 by decide), hc]
    refine zk_icmp_geN (pc' := 12) hC ⟨dX5_putRegister_9, rfl⟩ 49 (by decide) (by omega) (by omega) (fun q => ?_) (fun q => ?_)
    · omega
    · refine zk_aload_n (pc' := 13) hC rfl ⟨dX5_putRegister_12, rfl⟩ ?_
      refine zk_getr (pc' := 16) hC fl_X5_19 (by first | decide | assumption | omega) (by first | rfl | assumption) rfl ⟨dX5_putRegister_13, rfl⟩ ?_
      refine zk_aload_n (pc' := 17) hC rfl ⟨dX5_putRegister_16, rfl⟩ ?_
      first | refine zk_getiN (pc' := 20) hC fl_X5_109 (by first | decide | assumption | omega) (by first | rfl | assumption) rfl (by first | assumption | (rw [zk_u_s]; rfl) | (rw [hI]; rfl)) ⟨dX5_putRegister_17, rfl⟩ ?_ | refine zk_geti (pc' := 20) hC fl_X5_109 (by first | decide | assumption | omega) (by first | rfl | assumption) rfl ⟨dX5_putRegister_17, rfl⟩ ?_
      refine zk_aload_n (pc' := 21) hC rfl ⟨dX5_putRegister_20, rfl⟩ ?_
      refine zk_getr (pc' := 24) hC fl_X5_13 (by first | decide | assumption | omega) (by first | rfl | assumption) rfl ⟨dX5_putRegister_21, rfl⟩ ?_
      refine zk_sipush (pc' := 27) (x := nI 200) hC ⟨dX5_putRegister_24, rfl⟩ zc_sipush_200 ?_
      refine zk_iload_n (pc' := 28) hC rfl ⟨dX5_putRegister_27, rfl⟩ ?_
      first | refine zk_imulN (pc' := 29) hC ⟨dX5_putRegister_28, rfl⟩ ?_ | refine zk_imul (pc' := 29) hC ⟨dX5_putRegister_28, rfl⟩ ?_
      refine zk_iload_n (pc' := 30) hC rfl ⟨dX5_putRegister_29, rfl⟩ ?_
      first | refine zk_iaddN (pc' := 31) hC ⟨dX5_putRegister_30, rfl⟩ ?_ | refine zk_iadd (pc' := 31) hC ⟨dX5_putRegister_30, rfl⟩ ?_
      first | refine zk_ialdN (pc' := 32) hC (by first | decide | assumption | omega) (by first | rfl | assumption) (by omega) (by first | decide | omega) ⟨dX5_putRegister_31, rfl⟩ ?_ | refine zk_t0N (pc' := 32) hC (by omega) ⟨dX5_putRegister_31, rfl⟩ ?_ | refine zk_t2N (pc' := 32) hC (by omega) ⟨dX5_putRegister_31, rfl⟩ ?_
      rw [mdm_o (show 2 ≠ 0 by decide) (show 2 ≠ 4 by decide)]
      first | refine zk_iastN (pc' := 33) hC (by first | decide | assumption | omega) (by first | rfl | assumption) (by omega) (by first | decide | omega) ⟨dX5_putRegister_32, rfl⟩ ?_
      rw [mdm_4, mdm_u4, md_cp_S _ _ (fun k => I 2 (200 * r + k)) k rfl]
      have hI := mdm_0 (I := I) (f := md_cp (I 4) sz (fun k => I 2 (200 * r + k)) (k + 1)) (g := (md_g g0 th ks (sz + k) bg kd ln ps tg sc dn))
      refine zk_aload_n (pc' := 34) hC rfl ⟨dX5_putRegister_33, rfl⟩ ?_
      refine zk_dup (pc' := 35) hC ⟨dX5_putRegister_34, rfl⟩ rfl ?_
      first | refine zk_getiN (pc' := 38) hC fl_X5_109 (by first | decide | assumption | omega) (by first | rfl | assumption) rfl (by first | assumption | (rw [zk_u_s]; rfl) | (rw [hI]; rfl)) ⟨dX5_putRegister_35, rfl⟩ ?_ | refine zk_geti (pc' := 38) hC fl_X5_109 (by first | decide | assumption | omega) (by first | rfl | assumption) rfl ⟨dX5_putRegister_35, rfl⟩ ?_
      refine zk_iconst (pc' := 39) (x := nI 1) hC ⟨dX5_putRegister_38, rfl⟩ zc_iconst_1 ?_
      first | refine zk_iaddN (pc' := 40) hC ⟨dX5_putRegister_39, rfl⟩ ?_ | refine zk_iadd (pc' := 40) hC ⟨dX5_putRegister_39, rfl⟩ ?_
      refine zk_puti (pc' := 43) hC fl_X5_109 fp_X5_5 (by first | decide | assumption | omega) (by first | rfl | assumption) rfl rfl rfl ⟨dX5_putRegister_40, rfl⟩ ?_
      rw [mdm_0, mdm_u0, md_p5]
      first | refine zk_in2 (pc' := 46) hC ⟨dX5_putRegister_43, rfl⟩ ?_ | refine zk_iincG (pc' := 46) hC ⟨dX5_putRegister_43, rfl⟩ rfl ?_
      refine zk_goto (pc' := 49) hC ⟨dX5_putRegister_46, rfl⟩ 2 (by decide) ?_
      exact ih

