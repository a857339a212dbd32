/-! HASHER, its methods over the digest -/
theorem hz_parts_le {c : Nat} (h : c ≤ 1028) : 1 ≤ hz_parts c ∧ hz_parts c ≤ 9 := by unfold hz_parts; omega
theorem zk_m32 {a : Nat} (h : 32 ≤ a) : nI a + Int32.ofInt (-32) = nI (a - 32) := by
  rw [← pk_sub h, Int32.sub_eq_add_neg]
  congr 1
theorem bz_put_c {n : Nat} {p : Nat × (Nat → Int32)} {x : Int32} (h : p.1 ≤ n) : (bz_put n p x).1 = min n (p.1 + 1) := by
  unfold bz_put; split
  · show p.1 + 1 = _; omega
  · omega
theorem bz_pn_c {n : Nat} {p : Nat × (Nat → Int32)} {x : Int64} (h : p.1 ≤ n) : ∀ i, (bz_pn n p x i).1 = min n (p.1 + i)
  | 0 => by show p.1 = _; omega
  | i + 1 => by rw [bz_pn, bz_put_c (bz_pn_le h i), bz_pn_c h i]; omega
theorem bz_pa_c {n : Nat} {p : Nat × (Nat → Int32)} {g : Nat → Int32} (h : p.1 ≤ n) : ∀ i, (bz_pa n p g i).1 = min n (p.1 + i)
  | 0 => by show p.1 = _; omega
  | i + 1 => by rw [bz_pa, bz_put_c (bz_pa_le h i), bz_pa_c h i]; omega
def hz_gv (h : Nat → Int64) (p : Nat × (Nat → Int32)) (n : Nat) : Nat → Nat × (Nat → Int32)
  | 0 => p
  | i + 1 => bz_pn 1024 (hz_gv h p n i) (h i) (min 8 (n - 8 * i))
theorem hz_gv_c {h : Nat → Int64} {p : Nat × (Nat → Int32)} {n : Nat} (hp : p.1 ≤ 1024) : ∀ i, (hz_gv h p n i).1 = min 1024 (p.1 + min n (8 * i))
  | 0 => by show p.1 = _; omega
  | i + 1 => by
    have := hz_gv_c (h := h) (n := n) hp i
    rw [hz_gv, bz_pn_c (by rw [this]; omega), this]; omega
def hz_ts (h : Nat → Int64) (f : Nat → Int32) : Nat → Nat × (Nat → Int32)
  | 0 => (0, f)
  | i + 1 => bz_pn 1028 (hz_ts h f i) (h i) 8
theorem hz_ts_c {h : Nat → Int64} {f : Nat → Int32} : ∀ i, i ≤ 8 → (hz_ts h f i).1 = 8 * i
  | 0, _ => rfl
  | i + 1, hi => by
    have := hz_ts_c (h := h) (f := f) i (by omega)
    rw [hz_ts, bz_pn_c (by omega), this]; omega
def bz_zs (p : Nat × (Nat → Int32)) : Nat → Nat × (Nat → Int32)
  | 0 => p
  | i + 1 => bz_put 1028 (bz_zs p i) (nI 0)
theorem bz_zs_le {p : Nat × (Nat → Int32)} (h : p.1 ≤ 1028) : ∀ i, (bz_zs p i).1 ≤ 1028
  | 0 => h
  | i + 1 => bz_put_le (bz_zs_le h i)

set_option maxHeartbeats 1000000 in
set_option maxRecDepth 100000 in
theorem c_X2_digest (X : zk_X) (I : zk_I) (J : zk_J) {c klen n : Nat} (hc : I 23 1 = nI c) (hcn : c ≤ 1028) (hkl : klen ≤ 64) (hnn : n ≤ 1024) : zk_M 0 X yX2_digest cX2_digest 8 none (3, 69) [.ref (zk_ad X 22), .int (nI n), .int (nI klen)] I J none I (hz_dg (I 24) c klen n J) := by
  refine zk_M.intro (by decide) (lv := [some (.ref (zk_ad X 22)), some (.int (nI n)), some (.int (nI klen)), none, none, none, none, none]) rfl rfl (fun E hC hR => ?_)
  refine zk_iconst (pc' := 1) (x := nI 0) hC ⟨dX2_digest_0, rfl⟩ zc_iconst_0 ?_
  refine zk_is3 (pc' := 2) hC ⟨dX2_digest_1, rfl⟩ rfl ?_
  refine zk_eqJ (J' := zk_u J 27 (fz_fill (J 27) (fun i => zk_start.getD i 0) 0)) (by rw [fz_0, zk_u_self]) ?_
  refine zk_up (P := fun i => zk_A 0 X E 2 [some (.ref (zk_ad X 22)), some (.int (nI n)), some (.int (nI klen)), some (.int (nI i)), none, none, none, none] [] I (zk_u J 27 (fz_fill (J 27) (fun i => zk_start.getD i 0) i))) 8 ?_ (fun i hi ih => ?_)
  · skip
    refine zk_iload_n (pc' := 3) hC rfl ⟨dX2_digest_2, rfl⟩ ?_
    refine zk_bipush (pc' := 5) (x := nI 8) hC ⟨dX2_digest_3, rfl⟩ zc_bipush_8 ?_
    refine zk_icmp_geN (pc' := 8) hC ⟨dX2_digest_5, rfl⟩ 25 (by decide) (by omega) (by omega) (fun q => ?_) (fun q => ?_)
    · refine zk_aload_n (pc' := 26) hC rfl ⟨dX2_digest_25, rfl⟩ ?_
      refine zk_getr (pc' := 29) hC fl_X2_23 (by first | decide | assumption | omega) (by first | rfl | assumption) rfl ⟨dX2_digest_26, rfl⟩ ?_
      refine zk_iconst (pc' := 30) (x := nI 0) hC ⟨dX2_digest_29, rfl⟩ zc_iconst_0 ?_
      refine zk_dup2 (pc' := 31) hC ⟨dX2_digest_30, rfl⟩ rfl rfl ?_
      first | refine zk_laldU (pc' := 32) hC (by first | decide | assumption | omega) (by first | rfl | assumption) (by omega) (by first | decide | omega) ⟨dX2_digest_31, rfl⟩ ?_ | refine zk_laldN (pc' := 32) hC (by first | decide | assumption | omega) (by first | rfl | assumption) (by omega) (by first | decide | omega) ⟨dX2_digest_31, rfl⟩ ?_ | refine zk_t1N (pc' := 32) hC (by omega) ⟨dX2_digest_31, rfl⟩ ?_
      refine zk_ldc (pc' := 34) (x := nI 16842752) hC ⟨dX2_digest_32, rfl⟩ ki_X2_70 ?_
      refine zk_sipush (pc' := 37) (x := nI 256) hC ⟨dX2_digest_34, rfl⟩ zc_sipush_256 ?_
      refine zk_iload_n (pc' := 38) hC rfl ⟨dX2_digest_37, rfl⟩ ?_
      first | refine zk_imulN (pc' := 39) hC ⟨dX2_digest_38, rfl⟩ ?_ | refine zk_imul (pc' := 39) hC ⟨dX2_digest_38, rfl⟩ ?_
      refine zk_ixor (pc' := 40) hC ⟨dX2_digest_39, rfl⟩ ?_
      refine zk_iload_n (pc' := 41) hC rfl ⟨dX2_digest_40, rfl⟩ ?_
      refine zk_ixor (pc' := 42) hC ⟨dX2_digest_41, rfl⟩ ?_
      first | refine zk_i2lN (pc' := 43) hC ⟨dX2_digest_42, rfl⟩ (by omega) ?_ | refine zk_i2l (pc' := 43) hC ⟨dX2_digest_42, rfl⟩ ?_
      refine zk_lxor (pc' := 44) hC ⟨dX2_digest_43, rfl⟩ ?_
      first | refine zk_lastU (pc' := 45) hC (by first | decide | assumption | omega) (by first | rfl | assumption) (by omega) (by first | decide | omega) ⟨dX2_digest_44, rfl⟩ ?_ | refine zk_lastN (pc' := 45) hC (by first | decide | assumption | omega) (by first | rfl | assumption) (by omega) (by first | decide | omega) ⟨dX2_digest_44, rfl⟩ ?_
      refine zk_eqJ (J' := zk_u J 27 (hz_h0 (J 27) klen n)) rfl ?_
      refine zk_iconst (pc' := 46) (x := nI 1) hC ⟨dX2_digest_45, rfl⟩ zc_iconst_1 ?_
      refine zk_aload_n (pc' := 47) hC rfl ⟨dX2_digest_46, rfl⟩ ?_
      refine zk_getr (pc' := 50) hC fl_X2_16 (by first | decide | assumption | omega) (by first | rfl | assumption) rfl ⟨dX2_digest_47, rfl⟩ ?_
      refine zk_geti (pc' := 53) hC fl_X2_36 (by first | decide | assumption | omega) (by first | rfl | assumption) rfl ⟨dX2_digest_50, rfl⟩ ?_
      rw [hc]
      refine zk_sipush (pc' := 56) (x := nI 128) hC ⟨dX2_digest_53, rfl⟩ zc_sipush_128 ?_
      first | refine zk_iaddN (pc' := 57) hC ⟨dX2_digest_56, rfl⟩ ?_ | refine zk_iadd (pc' := 57) hC ⟨dX2_digest_56, rfl⟩ ?_
      refine zk_iconst (pc' := 58) (x := nI 1) hC ⟨dX2_digest_57, rfl⟩ zc_iconst_1 ?_
      first | refine zk_isubN (pc' := 59) hC ⟨dX2_digest_58, rfl⟩ (by omega) ?_ | refine zk_isub (pc' := 59) hC ⟨dX2_digest_58, rfl⟩ ?_
      refine zk_sipush (pc' := 62) (x := nI 128) hC ⟨dX2_digest_59, rfl⟩ zc_sipush_128 ?_
      first | refine zk_idivN (pc' := 63) hC ⟨dX2_digest_62, rfl⟩ (by omega) (by omega) (by omega) ?_ | refine zk_idiv (pc' := 63) hC ⟨dX2_digest_62, rfl⟩ (by first | assumption | decide) ?_
      first | refine zk_mmaxN (pc' := 66) hC (by decide) mm_X2_71 mmax_ws (Nat.le_of_ble_eq_true rfl) ⟨dX2_digest_63, rfl⟩ (by omega) (by omega) ?_ | refine zk_mmax (pc' := 66) hC (by decide) mm_X2_71 mmax_ws (Nat.le_of_ble_eq_true rfl) ⟨dX2_digest_63, rfl⟩ ?_
      refine zk_eqJ (J' := hz_set J (hz_h0 (J 27) klen n) (J 28) (J 29)) (by rw [← hz_u27 (h := J 27), hz_set_self]) ?_
      have hpp := hz_parts_le hcn
      change zk_A 0 X E 66 [some (.ref (zk_ad X 22)), some (.int (nI n)), some (.int (nI klen)), some (.int (nI 8)), none, none, none, none] [.int (nI (hz_parts c))] I _
      generalize hPn : hz_parts c = Pn at hpp ⊢
      refine zk_is3 (pc' := 67) hC ⟨dX2_digest_66, rfl⟩ rfl ?_
      refine zk_iconst (pc' := 68) (x := nI 0) hC ⟨dX2_digest_67, rfl⟩ zc_iconst_0 ?_
      refine zk_is4 (pc' := 70) hC ⟨dX2_digest_68, rfl⟩ rfl ?_
      refine zk_up (P := fun p => zk_A 0 X E 70 [some (.ref (zk_ad X 22)), some (.int (nI n)), some (.int (nI klen)), some (.int (nI Pn)), some (.int (nI p)), none, none, none] [] I (hz_set J (hz_S (I 24) c (hz_h0 (J 27) klen n, J 28, J 29) p).1 (hz_S (I 24) c (hz_h0 (J 27) klen n, J 28, J 29) p).2.1 (hz_S (I 24) c (hz_h0 (J 27) klen n, J 28, J 29) p).2.2)) Pn ?_ (fun p hp ihp => ?_)
      · skip
        refine zk_iload (pc' := 72) hC rfl ⟨dX2_digest_70, rfl⟩ ?_
        refine zk_iload_n (pc' := 73) hC rfl ⟨dX2_digest_72, rfl⟩ ?_
        refine zk_icmp_geN (pc' := 76) hC ⟨dX2_digest_73, rfl⟩ 178 (by decide) (by omega) (by omega) (fun q2 => ?_) (fun q2 => ?_)
        · exact zk_vret (pc' := 179) hC hR rfl rfl (by rw [hz_dg, hz_D, hPn]) ⟨dX2_digest_178, rfl⟩
        · omega
      · skip
        refine zk_iload (pc' := 72) hC rfl ⟨dX2_digest_70, rfl⟩ ?_
        refine zk_iload_n (pc' := 73) hC rfl ⟨dX2_digest_72, rfl⟩ ?_
        refine zk_icmp_geN (pc' := 76) hC ⟨dX2_digest_73, rfl⟩ 178 (by decide) (by omega) (by omega) (fun q2 => ?_) (fun q2 => ?_)
        · omega
        · refine zk_aload_n (pc' := 77) hC rfl ⟨dX2_digest_76, rfl⟩ ?_
          refine zk_iload (pc' := 79) hC rfl ⟨dX2_digest_77, rfl⟩ ?_
          refine zk_iload (pc' := 81) hC rfl ⟨dX2_digest_79, rfl⟩ ?_
          have hbp : hz_b c p < 2 := by unfold hz_b; split <;> omega
          have key : zk_A 0 X E 92 [some (.ref (zk_ad X 22)), some (.int (nI n)), some (.int (nI klen)), some (.int (nI Pn)), some (.int (nI p)), none, none, none] [.int (nI (hz_b c p)), .int (nI p), .ref (zk_ad X 22)] I (hz_set J (hz_S (I 24) c (hz_h0 (J 27) klen n, J 28, J 29) p).1 (hz_S (I 24) c (hz_h0 (J 27) klen n, J 28, J 29) p).2.1 (hz_S (I 24) c (hz_h0 (J 27) klen n, J 28, J 29) p).2.2) := by
            revert ihp
            show zk_A 0 X E 70 [some (.ref (zk_ad X 22)), some (.int (nI n)), some (.int (nI klen)), some (.int (nI Pn)), some (.int (nI (p + 1))), none, none, none] [] I (hz_set J (fz_fill (hz_S (I 24) c (hz_h0 (J 27) klen n, J 28, J 29) p).1 (hz_fd (hz_S (I 24) c (hz_h0 (J 27) klen n, J 28, J 29) p).1 (hz_rd (hz_lv (hz_S (I 24) c (hz_h0 (J 27) klen n, J 28, J 29) p).2.1 (hz_S (I 24) c (hz_h0 (J 27) klen n, J 28, J 29) p).1 (min c ((p + 1) * 128)) (hz_b c p)) (hz_pw (I 24) c p (hz_S (I 24) c (hz_h0 (J 27) klen n, J 28, J 29) p).2.2) 96)) 8) (hz_rd (hz_lv (hz_S (I 24) c (hz_h0 (J 27) klen n, J 28, J 29) p).2.1 (hz_S (I 24) c (hz_h0 (J 27) klen n, J 28, J 29) p).1 (min c ((p + 1) * 128)) (hz_b c p)) (hz_pw (I 24) c p (hz_S (I 24) c (hz_h0 (J 27) klen n, J 28, J 29) p).2.2) 96) (hz_pw (I 24) c p (hz_S (I 24) c (hz_h0 (J 27) klen n, J 28, J 29) p).2.2)) → _
            generalize (hz_S (I 24) c (hz_h0 (J 27) klen n, J 28, J 29) p) = S
            obtain ⟨h, v, w⟩ := S
            dsimp only
            intro ihp
            refine zk_callV0 (pc' := 95) hC ml_X2_74 mi_X2_loadPart (c_X2_loadPart X I _ hc hcn (p := p) (b := hz_b c p) (by omega) hbp) (by decide) (by first | decide | assumption | omega) (by first | rfl | assumption) rfl rfl rfl (Nat.le_of_ble_eq_true rfl) ⟨dX2_digest_92, rfl⟩ ?_
            rw [hz_set_w, hz_set_v, hz_set_h, hz_u29, hz_u28]
            generalize hz_lv v h (min c ((p + 1) * 128)) (hz_b c p) = v1 at ihp ⊢
            generalize hz_pw (I 24) c p w = w1 at ihp ⊢
            refine zk_iconst (pc' := 96) (x := nI 0) hC ⟨dX2_digest_95, rfl⟩ zc_iconst_0 ?_
            refine zk_is5 (pc' := 98) hC ⟨dX2_digest_96, rfl⟩ rfl ?_
            refine zk_up (P := fun s => zk_A 0 X E 98 [some (.ref (zk_ad X 22)), some (.int (nI n)), some (.int (nI klen)), some (.int (nI Pn)), some (.int (nI p)), some (.int (nI s)), none, none] [] I (hz_set J h (hz_rd v1 w1 s) w1)) 96 ?_ (fun s hs ihs => ?_)
            · skip
              refine zk_iload (pc' := 100) hC rfl ⟨dX2_digest_98, rfl⟩ ?_
              refine zk_bipush (pc' := 102) (x := nI 96) hC ⟨dX2_digest_100, rfl⟩ zc_bipush_96 ?_
              refine zk_icmp_geN (pc' := 105) hC ⟨dX2_digest_102, rfl⟩ 168 (by decide) (by omega) (by omega) (fun q4 => ?_) (fun q4 => ?_)
              · refine zk_aload_n (pc' := 169) hC rfl ⟨dX2_digest_168, rfl⟩ ?_
                refine zk_callV0 (pc' := 172) hC ml_X2_86 mi_X2_foldPart (c_X2_foldPart X I _) (by decide) (by first | decide | assumption | omega) (by first | rfl | assumption) rfl rfl rfl (Nat.le_of_ble_eq_true rfl) ⟨dX2_digest_169, rfl⟩ ?_
                rw [hz_set_h, hz_set_v, hz_u27]
                first | refine zk_in4 (pc' := 175) hC ⟨dX2_digest_172, rfl⟩ ?_ | refine zk_iincG (pc' := 175) hC ⟨dX2_digest_172, rfl⟩ rfl ?_
                refine zk_goto (pc' := 178) hC ⟨dX2_digest_175, rfl⟩ 70 (by decide) ?_
                refine zk_fg5 ?_
                exact ihp
              · omega
            · skip
              refine zk_iload (pc' := 100) hC rfl ⟨dX2_digest_98, rfl⟩ ?_
              refine zk_bipush (pc' := 102) (x := nI 96) hC ⟨dX2_digest_100, rfl⟩ zc_bipush_96 ?_
              refine zk_icmp_geN (pc' := 105) hC ⟨dX2_digest_102, rfl⟩ 168 (by decide) (by omega) (by omega) (fun q4 => ?_) (fun q4 => ?_)
              · omega
              · have ho1 := zk_ord_lt (s / 8 % 10 * 16 + 2 * (s % 8)) (by omega)
                have ho2 := zk_ord_lt (s / 8 % 10 * 16 + 2 * (s % 8) + 1) (by omega)
                refine zk_iload (pc' := 107) hC rfl ⟨dX2_digest_105, rfl⟩ ?_
                refine zk_bipush (pc' := 109) (x := nI 8) hC ⟨dX2_digest_107, rfl⟩ zc_bipush_8 ?_
                first | refine zk_iremN (pc' := 110) hC ⟨dX2_digest_109, rfl⟩ (by omega) (by omega) (by omega) ?_ | refine zk_irem (pc' := 110) hC ⟨dX2_digest_109, rfl⟩ (by first | assumption | decide) ?_
                refine zk_is6 (pc' := 112) hC ⟨dX2_digest_110, rfl⟩ rfl ?_
                refine zk_iload (pc' := 114) hC rfl ⟨dX2_digest_112, rfl⟩ ?_
                refine zk_bipush (pc' := 116) (x := nI 8) hC ⟨dX2_digest_114, rfl⟩ zc_bipush_8 ?_
                first | refine zk_idivN (pc' := 117) hC ⟨dX2_digest_116, rfl⟩ (by omega) (by omega) (by omega) ?_ | refine zk_idiv (pc' := 117) hC ⟨dX2_digest_116, rfl⟩ (by first | assumption | decide) ?_
                refine zk_bipush (pc' := 119) (x := nI 10) hC ⟨dX2_digest_117, rfl⟩ zc_bipush_10 ?_
                first | refine zk_iremN (pc' := 120) hC ⟨dX2_digest_119, rfl⟩ (by omega) (by omega) (by omega) ?_ | refine zk_irem (pc' := 120) hC ⟨dX2_digest_119, rfl⟩ (by first | assumption | decide) ?_
                refine zk_bipush (pc' := 122) (x := nI 16) hC ⟨dX2_digest_120, rfl⟩ zc_bipush_16 ?_
                first | refine zk_imulN (pc' := 123) hC ⟨dX2_digest_122, rfl⟩ ?_ | refine zk_imul (pc' := 123) hC ⟨dX2_digest_122, rfl⟩ ?_
                refine zk_iconst (pc' := 124) (x := nI 2) hC ⟨dX2_digest_123, rfl⟩ zc_iconst_2 ?_
                refine zk_iload (pc' := 126) hC rfl ⟨dX2_digest_124, rfl⟩ ?_
                first | refine zk_imulN (pc' := 127) hC ⟨dX2_digest_126, rfl⟩ ?_ | refine zk_imul (pc' := 127) hC ⟨dX2_digest_126, rfl⟩ ?_
                first | refine zk_iaddN (pc' := 128) hC ⟨dX2_digest_127, rfl⟩ ?_ | refine zk_iadd (pc' := 128) hC ⟨dX2_digest_127, rfl⟩ ?_
                refine zk_is7 (pc' := 130) hC ⟨dX2_digest_128, rfl⟩ rfl ?_
                refine zk_aload_n (pc' := 131) hC rfl ⟨dX2_digest_130, rfl⟩ ?_
                refine zk_iconst (pc' := 132) (x := nI 4) hC ⟨dX2_digest_131, rfl⟩ zc_iconst_4 ?_
                refine zk_iload (pc' := 134) hC rfl ⟨dX2_digest_132, rfl⟩ ?_
                first | refine zk_imulN (pc' := 135) hC ⟨dX2_digest_134, rfl⟩ ?_ | refine zk_imul (pc' := 135) hC ⟨dX2_digest_134, rfl⟩ ?_
                refine zk_aload_n (pc' := 136) hC rfl ⟨dX2_digest_135, rfl⟩ ?_
                refine zk_getr (pc' := 139) hC fl_X2_30 (by first | decide | assumption | omega) (by first | rfl | assumption) rfl ⟨dX2_digest_136, rfl⟩ ?_
                refine zk_gets (pc' := 142) (j := 2) hC rfl ls_X2_78 ⟨dX2_digest_139, rfl⟩ ?_
                refine zk_iload (pc' := 144) hC rfl ⟨dX2_digest_142, rfl⟩ ?_
                first | refine zk_ialdU (pc' := 145) hC (by first | decide | assumption | omega) (by first | rfl | assumption) (by omega) (by first | decide | omega) ⟨dX2_digest_144, rfl⟩ ?_ | refine zk_ialdN (pc' := 145) hC (by first | decide | assumption | omega) (by first | rfl | assumption) (by omega) (by first | decide | omega) ⟨dX2_digest_144, rfl⟩ ?_ | refine zk_t0N (pc' := 145) hC (by omega) ⟨dX2_digest_144, rfl⟩ ?_ | refine zk_t2N (pc' := 145) hC (by omega) ⟨dX2_digest_144, rfl⟩ ?_
                first | refine zk_laldU (pc' := 146) hC (by first | decide | assumption | omega) (by first | rfl | assumption) (by omega) (by first | decide | omega) ⟨dX2_digest_145, rfl⟩ ?_ | refine zk_laldN (pc' := 146) hC (by first | decide | assumption | omega) (by first | rfl | assumption) (by omega) (by first | decide | omega) ⟨dX2_digest_145, rfl⟩ ?_ | refine zk_t1N (pc' := 146) hC (by omega) ⟨dX2_digest_145, rfl⟩ ?_
                rw [hz_set_w]
                refine zk_aload_n (pc' := 147) hC rfl ⟨dX2_digest_146, rfl⟩ ?_
                refine zk_getr (pc' := 150) hC fl_X2_30 (by first | decide | assumption | omega) (by first | rfl | assumption) rfl ⟨dX2_digest_147, rfl⟩ ?_
                refine zk_gets (pc' := 153) (j := 2) hC rfl ls_X2_78 ⟨dX2_digest_150, rfl⟩ ?_
                refine zk_iload (pc' := 155) hC rfl ⟨dX2_digest_153, rfl⟩ ?_
                refine zk_iconst (pc' := 156) (x := nI 1) hC ⟨dX2_digest_155, rfl⟩ zc_iconst_1 ?_
                first | refine zk_iaddN (pc' := 157) hC ⟨dX2_digest_156, rfl⟩ ?_ | refine zk_iadd (pc' := 157) hC ⟨dX2_digest_156, rfl⟩ ?_
                first | refine zk_ialdU (pc' := 158) hC (by first | decide | assumption | omega) (by first | rfl | assumption) (by omega) (by first | decide | omega) ⟨dX2_digest_157, rfl⟩ ?_ | refine zk_ialdN (pc' := 158) hC (by first | decide | assumption | omega) (by first | rfl | assumption) (by omega) (by first | decide | omega) ⟨dX2_digest_157, rfl⟩ ?_ | refine zk_t0N (pc' := 158) hC (by omega) ⟨dX2_digest_157, rfl⟩ ?_ | refine zk_t2N (pc' := 158) hC (by omega) ⟨dX2_digest_157, rfl⟩ ?_
                first | refine zk_laldU (pc' := 159) hC (by first | decide | assumption | omega) (by first | rfl | assumption) (by omega) (by first | decide | omega) ⟨dX2_digest_158, rfl⟩ ?_ | refine zk_laldN (pc' := 159) hC (by first | decide | assumption | omega) (by first | rfl | assumption) (by omega) (by first | decide | omega) ⟨dX2_digest_158, rfl⟩ ?_ | refine zk_t1N (pc' := 159) hC (by omega) ⟨dX2_digest_158, rfl⟩ ?_
                rw [hz_set_w]
                refine zk_callV0 (pc' := 162) hC ml_X2_82 mi_X2_mix (c_X2_mix X I _ (p := 4 * (s % 8)) _ _ (by omega)) (by decide) (by first | decide | assumption | omega) (by first | rfl | assumption) rfl rfl rfl (Nat.le_of_ble_eq_true rfl) ⟨dX2_digest_159, rfl⟩ ?_
                rw [hz_set_v, hz_u28]
                first | refine zk_in5 (pc' := 165) hC ⟨dX2_digest_162, rfl⟩ ?_ | refine zk_iincG (pc' := 165) hC ⟨dX2_digest_162, rfl⟩ rfl ?_
                refine zk_goto (pc' := 168) hC ⟨dX2_digest_165, rfl⟩ 98 (by decide) ?_
                refine zk_fg6 ?_
                refine zk_fg7 ?_
                exact ihs
          refine zk_iload_n (pc' := 82) hC rfl ⟨dX2_digest_81, rfl⟩ ?_
          refine zk_iconst (pc' := 83) (x := nI 1) hC ⟨dX2_digest_82, rfl⟩ zc_iconst_1 ?_
          first | refine zk_isubN (pc' := 84) hC ⟨dX2_digest_83, rfl⟩ (by omega) ?_ | refine zk_isub (pc' := 84) hC ⟨dX2_digest_83, rfl⟩ ?_
          refine zk_icmp_neN (pc' := 87) hC ⟨dX2_digest_84, rfl⟩ 91 (by decide) (by omega) (by omega) (fun q5 => ?_) (fun q5 => ?_)
          · have e0 : hz_b c p = 0 := by unfold hz_b; rw [hPn, if_neg (by omega)]
            refine zk_iconst (pc' := 92) (x := nI 0) hC ⟨dX2_digest_91, rfl⟩ zc_iconst_0 ?_
            rw [e0] at key
            exact key
          · have e0 : hz_b c p = 1 := by unfold hz_b; rw [hPn, if_pos (by omega)]
            refine zk_iconst (pc' := 88) (x := nI 1) hC ⟨dX2_digest_87, rfl⟩ zc_iconst_1 ?_
            refine zk_goto (pc' := 91) hC ⟨dX2_digest_88, rfl⟩ 92 (by decide) ?_
            rw [e0] at key
            exact key
    · omega
  · skip
    refine zk_iload_n (pc' := 3) hC rfl ⟨dX2_digest_2, rfl⟩ ?_
    refine zk_bipush (pc' := 5) (x := nI 8) hC ⟨dX2_digest_3, rfl⟩ zc_bipush_8 ?_
    refine zk_icmp_geN (pc' := 8) hC ⟨dX2_digest_5, rfl⟩ 25 (by decide) (by omega) (by omega) (fun q => ?_) (fun q => ?_)
    · omega
    · refine zk_aload_n (pc' := 9) hC rfl ⟨dX2_digest_8, rfl⟩ ?_
      refine zk_getr (pc' := 12) hC fl_X2_23 (by first | decide | assumption | omega) (by first | rfl | assumption) rfl ⟨dX2_digest_9, rfl⟩ ?_
      refine zk_iload_n (pc' := 13) hC rfl ⟨dX2_digest_12, rfl⟩ ?_
      refine zk_gets (pc' := 16) (j := 1) hC rfl ls_X2_67 ⟨dX2_digest_13, rfl⟩ ?_
      refine zk_iload_n (pc' := 17) hC rfl ⟨dX2_digest_16, rfl⟩ ?_
      first | refine zk_laldU (pc' := 18) hC (by first | decide | assumption | omega) (by first | rfl | assumption) (by omega) (by first | decide | omega) ⟨dX2_digest_17, rfl⟩ ?_ | refine zk_laldN (pc' := 18) hC (by first | decide | assumption | omega) (by first | rfl | assumption) (by omega) (by first | decide | omega) ⟨dX2_digest_17, rfl⟩ ?_ | refine zk_t1N (pc' := 18) hC (by omega) ⟨dX2_digest_17, rfl⟩ ?_
      first | refine zk_lastU (pc' := 19) hC (by first | decide | assumption | omega) (by first | rfl | assumption) (by omega) (by first | decide | omega) ⟨dX2_digest_18, rfl⟩ ?_ | refine zk_lastN (pc' := 19) hC (by first | decide | assumption | omega) (by first | rfl | assumption) (by omega) (by first | decide | omega) ⟨dX2_digest_18, rfl⟩ ?_
      rw [fz_S _ _ i rfl]
      first | refine zk_in3 (pc' := 22) hC ⟨dX2_digest_19, rfl⟩ ?_ | refine zk_iincG (pc' := 22) hC ⟨dX2_digest_19, rfl⟩ rfl ?_
      refine zk_goto (pc' := 25) hC ⟨dX2_digest_22, rfl⟩ 2 (by decide) ?_
      exact ih

set_option maxHeartbeats 1000000 in
set_option maxRecDepth 100000 in
theorem c_X2_give (X : zk_X) (I : zk_I) (J : zk_J) {c n : Nat} (hc : I 25 1 = nI c) (hcn : c ≤ 1024) (hnn : n ≤ 1024) : zk_M 0 X yX2_give cX2_give 3 none (2, 45) [.ref (zk_ad X 22), .int (nI n)] I J none (bz_set I 25 26 (hz_gv (J 27) (c, I 26) n 8)) J := by
  refine zk_M.intro (by decide) (lv := [some (.ref (zk_ad X 22)), some (.int (nI n)), none]) rfl rfl (fun E hC hR => ?_)
  refine zk_iconst (pc' := 1) (x := nI 0) hC ⟨dX2_give_0, rfl⟩ zc_iconst_0 ?_
  refine zk_is2 (pc' := 2) hC ⟨dX2_give_1, rfl⟩ rfl ?_
  refine zk_eqI (I' := bz_set I 25 26 (hz_gv (J 27) (c, I 26) n 0)) (bz_set_same hc).symm ?_
  refine zk_up (P := fun i => zk_A 0 X E 2 [some (.ref (zk_ad X 22)), some (.int (nI n)), some (.int (nI i))] [] (bz_set I 25 26 (hz_gv (J 27) (c, I 26) n i)) J) 8 ?_ (fun i hi ih => ?_)
  · skip
    refine zk_iload_n (pc' := 3) hC rfl ⟨dX2_give_2, rfl⟩ ?_
    refine zk_bipush (pc' := 5) (x := nI 8) hC ⟨dX2_give_3, rfl⟩ zc_bipush_8 ?_
    refine zk_icmp_geN (pc' := 8) hC ⟨dX2_give_5, rfl⟩ 38 (by decide) (by omega) (by omega) (fun q => ?_) (fun q => ?_)
    · exact zk_vret (pc' := 39) hC hR rfl rfl rfl ⟨dX2_give_38, rfl⟩
    · omega
  · skip
    refine zk_iload_n (pc' := 3) hC rfl ⟨dX2_give_2, rfl⟩ ?_
    refine zk_bipush (pc' := 5) (x := nI 8) hC ⟨dX2_give_3, rfl⟩ zc_bipush_8 ?_
    refine zk_icmp_geN (pc' := 8) hC ⟨dX2_give_5, rfl⟩ 38 (by decide) (by omega) (by omega) (fun q => ?_) (fun q => ?_)
    · omega
    · have hle : (hz_gv (J 27) (c, I 26) n i).1 ≤ 1024 := by rw [hz_gv_c hcn]; omega
      by_cases hni : 8 * i ≤ n
      · skip
        refine zk_aload_n (pc' := 9) hC rfl ⟨dX2_give_8, rfl⟩ ?_
        refine zk_getr (pc' := 12) hC fl_X2_20 (by first | decide | assumption | omega) (by first | rfl | assumption) rfl ⟨dX2_give_9, rfl⟩ ?_
        refine zk_aload_n (pc' := 13) hC rfl ⟨dX2_give_12, rfl⟩ ?_
        refine zk_getr (pc' := 16) hC fl_X2_23 (by first | decide | assumption | omega) (by first | rfl | assumption) rfl ⟨dX2_give_13, rfl⟩ ?_
        refine zk_iload_n (pc' := 17) hC rfl ⟨dX2_give_16, rfl⟩ ?_
        first | refine zk_laldU (pc' := 18) hC (by first | decide | assumption | omega) (by first | rfl | assumption) (by omega) (by first | decide | omega) ⟨dX2_give_17, rfl⟩ ?_ | refine zk_laldN (pc' := 18) hC (by first | decide | assumption | omega) (by first | rfl | assumption) (by omega) (by first | decide | omega) ⟨dX2_give_17, rfl⟩ ?_ | refine zk_t1N (pc' := 18) hC (by omega) ⟨dX2_give_17, rfl⟩ ?_
        refine zk_bipush (pc' := 20) (x := nI 8) hC ⟨dX2_give_18, rfl⟩ zc_bipush_8 ?_
        refine zk_iload_n (pc' := 21) hC rfl ⟨dX2_give_20, rfl⟩ ?_
        refine zk_bipush (pc' := 23) (x := nI 8) hC ⟨dX2_give_21, rfl⟩ zc_bipush_8 ?_
        refine zk_iload_n (pc' := 24) hC rfl ⟨dX2_give_23, rfl⟩ ?_
        first | refine zk_imulN (pc' := 25) hC ⟨dX2_give_24, rfl⟩ ?_ | refine zk_imul (pc' := 25) hC ⟨dX2_give_24, rfl⟩ ?_
        first | refine zk_isubN (pc' := 26) hC ⟨dX2_give_25, rfl⟩ (by omega) ?_ | refine zk_isub (pc' := 26) hC ⟨dX2_give_25, rfl⟩ ?_
        first | refine zk_mminN (pc' := 29) hC (by decide) mm_X2_61 mmin_ws (Nat.le_of_ble_eq_true rfl) ⟨dX2_give_26, rfl⟩ (by omega) (by omega) ?_ | refine zk_mmin (pc' := 29) hC (by decide) mm_X2_61 mmin_ws (Nat.le_of_ble_eq_true rfl) ⟨dX2_give_26, rfl⟩ ?_
        refine zk_callV0 (pc' := 32) hC ml_X2_47 mi_X0_putNumber (c_X0_putNumber X (bz_set I 25 26 (hz_gv (J 27) (c, I 26) n i)) J bz_made (q := (min 8 (n - 8 * i))) (J 27 i) (nI (min 8 (n - 8 * i))) (Or.inl ⟨rfl, by omega⟩) bz_set_c hle) (by decide) (by first | decide | assumption | omega) (by first | rfl | assumption) rfl rfl rfl (Nat.le_of_ble_eq_true rfl) ⟨dX2_give_29, rfl⟩ ?_
        refine zk_eqI (I' := bz_set I 25 26 (hz_gv (J 27) (c, I 26) n (i + 1))) (by rw [bz_set_f (by decide), bz_set_set (by decide)]; rfl) ?_
        first | refine zk_in2 (pc' := 35) hC ⟨dX2_give_32, rfl⟩ ?_ | refine zk_iincG (pc' := 35) hC ⟨dX2_give_32, rfl⟩ rfl ?_
        refine zk_goto (pc' := 38) hC ⟨dX2_give_35, rfl⟩ 2 (by decide) ?_
        exact ih
      · skip
        refine zk_aload_n (pc' := 9) hC rfl ⟨dX2_give_8, rfl⟩ ?_
        refine zk_getr (pc' := 12) hC fl_X2_20 (by first | decide | assumption | omega) (by first | rfl | assumption) rfl ⟨dX2_give_9, rfl⟩ ?_
        refine zk_aload_n (pc' := 13) hC rfl ⟨dX2_give_12, rfl⟩ ?_
        refine zk_getr (pc' := 16) hC fl_X2_23 (by first | decide | assumption | omega) (by first | rfl | assumption) rfl ⟨dX2_give_13, rfl⟩ ?_
        refine zk_iload_n (pc' := 17) hC rfl ⟨dX2_give_16, rfl⟩ ?_
        first | refine zk_laldU (pc' := 18) hC (by first | decide | assumption | omega) (by first | rfl | assumption) (by omega) (by first | decide | omega) ⟨dX2_give_17, rfl⟩ ?_ | refine zk_laldN (pc' := 18) hC (by first | decide | assumption | omega) (by first | rfl | assumption) (by omega) (by first | decide | omega) ⟨dX2_give_17, rfl⟩ ?_ | refine zk_t1N (pc' := 18) hC (by omega) ⟨dX2_give_17, rfl⟩ ?_
        refine zk_bipush (pc' := 20) (x := nI 8) hC ⟨dX2_give_18, rfl⟩ zc_bipush_8 ?_
        refine zk_iload_n (pc' := 21) hC rfl ⟨dX2_give_20, rfl⟩ ?_
        refine zk_bipush (pc' := 23) (x := nI 8) hC ⟨dX2_give_21, rfl⟩ zc_bipush_8 ?_
        refine zk_iload_n (pc' := 24) hC rfl ⟨dX2_give_23, rfl⟩ ?_
        first | refine zk_imulN (pc' := 25) hC ⟨dX2_give_24, rfl⟩ ?_ | refine zk_imul (pc' := 25) hC ⟨dX2_give_24, rfl⟩ ?_
        first | refine zk_isubN (pc' := 26) hC ⟨dX2_give_25, rfl⟩ (by omega) ?_ | refine zk_isub (pc' := 26) hC ⟨dX2_give_25, rfl⟩ ?_
        have hneg : nI n - nI (8 * i) < 0 := pk_sneg (by omega) (by omega)
        first | refine zk_mminN (pc' := 29) hC (by decide) mm_X2_61 mmin_ws (Nat.le_of_ble_eq_true rfl) ⟨dX2_give_26, rfl⟩ (by omega) (by omega) ?_ | refine zk_mmin (pc' := 29) hC (by decide) mm_X2_61 mmin_ws (Nat.le_of_ble_eq_true rfl) ⟨dX2_give_26, rfl⟩ ?_
        rw [if_pos (Int32.lt_trans hneg (by decide))]
        refine zk_callV0 (pc' := 32) hC ml_X2_47 mi_X0_putNumber (c_X0_putNumber X (bz_set I 25 26 (hz_gv (J 27) (c, I 26) n i)) J bz_made (q := (min 8 (n - 8 * i))) (J 27 i) (nI n - nI (8 * i)) (Or.inr ⟨hneg, by omega⟩) bz_set_c hle) (by decide) (by first | decide | assumption | omega) (by first | rfl | assumption) rfl rfl rfl (Nat.le_of_ble_eq_true rfl) ⟨dX2_give_29, rfl⟩ ?_
        refine zk_eqI (I' := bz_set I 25 26 (hz_gv (J 27) (c, I 26) n (i + 1))) (by rw [bz_set_f (by decide), bz_set_set (by decide)]; rfl) ?_
        first | refine zk_in2 (pc' := 35) hC ⟨dX2_give_32, rfl⟩ ?_ | refine zk_iincG (pc' := 35) hC ⟨dX2_give_32, rfl⟩ rfl ?_
        refine zk_goto (pc' := 38) hC ⟨dX2_give_35, rfl⟩ 2 (by decide) ?_
        exact ih

set_option maxHeartbeats 1000000 in
set_option maxRecDepth 100000 in
theorem c_X2_takeStateAsMessage (X : zk_X) (I : zk_I) (J : zk_J)  : zk_M 0 X yX2_takeStateAsMessage cX2_takeStateAsMessage 2 none (2, 45) [.ref (zk_ad X 22)] I J none (bz_set I 23 24 (hz_ts (J 27) (I 24) 8)) J := by
  refine zk_M.intro (by decide) (lv := [some (.ref (zk_ad X 22)), none]) rfl rfl (fun E hC hR => ?_)
  refine zk_aload_n (pc' := 1) hC rfl ⟨dX2_takeStateAsMessage_0, rfl⟩ ?_
  refine zk_getr (pc' := 4) hC fl_X2_16 (by first | decide | assumption | omega) (by first | rfl | assumption) rfl ⟨dX2_takeStateAsMessage_1, rfl⟩ ?_
  refine zk_callV0 (pc' := 7) hC ml_X2_33 mi_X0_empty (c_X0_empty X I J bz_msg) (by decide) (by first | decide | assumption | omega) (by first | rfl | assumption) rfl rfl rfl (Nat.le_of_ble_eq_true rfl) ⟨dX2_takeStateAsMessage_4, rfl⟩ ?_
  refine zk_iconst (pc' := 8) (x := nI 0) hC ⟨dX2_takeStateAsMessage_7, rfl⟩ zc_iconst_0 ?_
  refine zk_is1 (pc' := 9) hC ⟨dX2_takeStateAsMessage_8, rfl⟩ rfl ?_
  refine zk_eqI (I' := bz_set I 23 24 (hz_ts (J 27) (I 24) 0)) (by rw [hz_ts, bz_set, zk_u_self]) ?_
  refine zk_up (P := fun i => zk_A 0 X E 9 [some (.ref (zk_ad X 22)), some (.int (nI i))] [] (bz_set I 23 24 (hz_ts (J 27) (I 24) i)) J) 8 ?_ (fun i hi ih => ?_)
  · skip
    refine zk_iload_n (pc' := 10) hC rfl ⟨dX2_takeStateAsMessage_9, rfl⟩ ?_
    refine zk_bipush (pc' := 12) (x := nI 8) hC ⟨dX2_takeStateAsMessage_10, rfl⟩ zc_bipush_8 ?_
    refine zk_icmp_geN (pc' := 15) hC ⟨dX2_takeStateAsMessage_12, rfl⟩ 36 (by decide) (by omega) (by omega) (fun q => ?_) (fun q => ?_)
    · exact zk_vret (pc' := 37) hC hR rfl rfl rfl ⟨dX2_takeStateAsMessage_36, rfl⟩
    · omega
  · skip
    refine zk_iload_n (pc' := 10) hC rfl ⟨dX2_takeStateAsMessage_9, rfl⟩ ?_
    refine zk_bipush (pc' := 12) (x := nI 8) hC ⟨dX2_takeStateAsMessage_10, rfl⟩ zc_bipush_8 ?_
    refine zk_icmp_geN (pc' := 15) hC ⟨dX2_takeStateAsMessage_12, rfl⟩ 36 (by decide) (by omega) (by omega) (fun q => ?_) (fun q => ?_)
    · omega
    · have hle := hz_ts_c (h := J 27) (f := I 24) i (by omega)
      refine zk_aload_n (pc' := 16) hC rfl ⟨dX2_takeStateAsMessage_15, rfl⟩ ?_
      refine zk_getr (pc' := 19) hC fl_X2_16 (by first | decide | assumption | omega) (by first | rfl | assumption) rfl ⟨dX2_takeStateAsMessage_16, rfl⟩ ?_
      refine zk_aload_n (pc' := 20) hC rfl ⟨dX2_takeStateAsMessage_19, rfl⟩ ?_
      refine zk_getr (pc' := 23) hC fl_X2_23 (by first | decide | assumption | omega) (by first | rfl | assumption) rfl ⟨dX2_takeStateAsMessage_20, rfl⟩ ?_
      refine zk_iload_n (pc' := 24) hC rfl ⟨dX2_takeStateAsMessage_23, rfl⟩ ?_
      first | refine zk_laldU (pc' := 25) hC (by first | decide | assumption | omega) (by first | rfl | assumption) (by omega) (by first | decide | omega) ⟨dX2_takeStateAsMessage_24, rfl⟩ ?_ | refine zk_laldN (pc' := 25) hC (by first | decide | assumption | omega) (by first | rfl | assumption) (by omega) (by first | decide | omega) ⟨dX2_takeStateAsMessage_24, rfl⟩ ?_ | refine zk_t1N (pc' := 25) hC (by omega) ⟨dX2_takeStateAsMessage_24, rfl⟩ ?_
      refine zk_bipush (pc' := 27) (x := nI 8) hC ⟨dX2_takeStateAsMessage_25, rfl⟩ zc_bipush_8 ?_
      refine zk_callV0 (pc' := 30) hC ml_X2_47 mi_X0_putNumber (c_X0_putNumber X (bz_set I 23 24 (hz_ts (J 27) (I 24) i)) J bz_msg (q := 8) (J 27 i) (nI 8) (Or.inl ⟨rfl, by decide⟩) bz_set_c (by omega)) (by decide) (by first | decide | assumption | omega) (by first | rfl | assumption) rfl rfl rfl (Nat.le_of_ble_eq_true rfl) ⟨dX2_takeStateAsMessage_27, rfl⟩ ?_
      refine zk_eqI (I' := bz_set I 23 24 (hz_ts (J 27) (I 24) (i + 1))) (by rw [bz_set_f (by decide), bz_set_set (by decide)]; rfl) ?_
      first | refine zk_in1 (pc' := 33) hC ⟨dX2_takeStateAsMessage_30, rfl⟩ ?_ | refine zk_iincG (pc' := 33) hC ⟨dX2_takeStateAsMessage_30, rfl⟩ rfl ?_
      refine zk_goto (pc' := 36) hC ⟨dX2_takeStateAsMessage_33, rfl⟩ 9 (by decide) ?_
      exact ih

set_option maxHeartbeats 1000000 in
set_option maxRecDepth 100000 in
theorem c_X2_openLong (X : zk_X) (I : zk_I) (J : zk_J) {n : Nat} (hn : n < 2 ^ 31) : zk_M 0 X yX2_openLong cX2_openLong 2 none (2, 45) [.ref (zk_ad X 22), .int (nI n)] I J none (bz_set I 23 24 (bz_pn 1028 (0, I 24) (lN n) 4)) J := by
  refine zk_M.intro (by decide) (lv := [some (.ref (zk_ad X 22)), some (.int (nI n))]) rfl rfl (fun E hC hR => ?_)
  refine zk_aload_n (pc' := 1) hC rfl ⟨dX2_openLong_0, rfl⟩ ?_
  refine zk_getr (pc' := 4) hC fl_X2_16 (by first | decide | assumption | omega) (by first | rfl | assumption) rfl ⟨dX2_openLong_1, rfl⟩ ?_
  refine zk_callV0 (pc' := 7) hC ml_X2_33 mi_X0_empty (c_X0_empty X I J bz_msg) (by decide) (by first | decide | assumption | omega) (by first | rfl | assumption) rfl rfl rfl (Nat.le_of_ble_eq_true rfl) ⟨dX2_openLong_4, rfl⟩ ?_
  refine zk_eqI (I' := bz_set I 23 24 (0, I 24)) (by rw [bz_set, zk_u_self]) ?_
  refine zk_aload_n (pc' := 8) hC rfl ⟨dX2_openLong_7, rfl⟩ ?_
  refine zk_getr (pc' := 11) hC fl_X2_16 (by first | decide | assumption | omega) (by first | rfl | assumption) rfl ⟨dX2_openLong_8, rfl⟩ ?_
  refine zk_iload_n (pc' := 12) hC rfl ⟨dX2_openLong_11, rfl⟩ ?_
  first | refine zk_i2lN (pc' := 13) hC ⟨dX2_openLong_12, rfl⟩ (by omega) ?_ | refine zk_i2l (pc' := 13) hC ⟨dX2_openLong_12, rfl⟩ ?_
  refine zk_iconst (pc' := 14) (x := nI 4) hC ⟨dX2_openLong_13, rfl⟩ zc_iconst_4 ?_
  refine zk_callV0 (pc' := 17) hC ml_X2_47 mi_X0_putNumber (c_X0_putNumber X (bz_set I 23 24 (0, I 24)) J bz_msg (q := 4) (lN n) (nI 4) (Or.inl ⟨rfl, by decide⟩) bz_set_c (Nat.zero_le _)) (by decide) (by first | decide | assumption | omega) (by first | rfl | assumption) rfl rfl rfl (Nat.le_of_ble_eq_true rfl) ⟨dX2_openLong_14, rfl⟩ ?_
  exact zk_vret (pc' := 18) hC hR rfl (by rw [bz_set_f (by decide), bz_set_set (by decide)]) rfl ⟨dX2_openLong_17, rfl⟩

set_option maxHeartbeats 1000000 in
set_option maxRecDepth 100000 in
theorem c_X2_openWithKey (X : zk_X) (I : zk_I) (J : zk_J) {k k' nk e : Nat} (hb : bz_ok k k' nk) (hok : k ≠ 23) (hok' : k' ≠ 24) (he : I k 1 = nI e) (hen : e ≤ nk) (he64 : e ≤ 64) : zk_M 0 X yX2_openWithKey cX2_openWithKey 3 none (2, 43) [.ref (zk_ad X 22), .ref (zk_ad X k)] I J none (bz_set I 23 24 (if e = 0 then (0, I 24) else bz_zs (bz_pa 1028 (0, I 24) (I k') e) (128 - e))) J := by
  refine zk_M.intro (by decide) (lv := [some (.ref (zk_ad X 22)), some (.ref (zk_ad X k)), none]) rfl rfl (fun E hC hR => ?_)
  have hk23 : k ≠ 24 := fun e => by have h1 := hb.2.2.1; rw [e] at h1; cases h1
  have hk23' : k' ≠ 23 := fun e => by have h1 := hb.2.2.2.1; rw [e] at h1; cases h1
  obtain ⟨hk, hk', hs, hs', hn⟩ := id hb
  refine zk_aload_n (pc' := 1) hC rfl ⟨dX2_openWithKey_0, rfl⟩ ?_
  refine zk_getr (pc' := 4) hC fl_X2_16 (by first | decide | assumption | omega) (by first | rfl | assumption) rfl ⟨dX2_openWithKey_1, rfl⟩ ?_
  refine zk_callV0 (pc' := 7) hC ml_X2_33 mi_X0_empty (c_X0_empty X I J bz_msg) (by decide) (by first | decide | assumption | omega) (by first | rfl | assumption) rfl rfl rfl (Nat.le_of_ble_eq_true rfl) ⟨dX2_openWithKey_4, rfl⟩ ?_
  refine zk_eqI (I' := bz_set I 23 24 (0, I 24)) (by rw [bz_set, zk_u_self]) ?_
  refine zk_aload_n (pc' := 8) hC rfl ⟨dX2_openWithKey_7, rfl⟩ ?_
  refine zk_geti (pc' := 11) hC fl_X2_36 (by first | decide | assumption | omega) (by first | rfl | assumption) rfl ⟨dX2_openWithKey_8, rfl⟩ ?_
  rw [bz_set_o hok hk23, he]
  refine zk_if_neN (pc' := 14) hC ⟨dX2_openWithKey_11, rfl⟩ 15 (by decide) (by omega) (fun q => ?_) (fun q => ?_)
  · rw [if_neg q] at hR
    refine zk_aload_n (pc' := 16) hC rfl ⟨dX2_openWithKey_15, rfl⟩ ?_
    refine zk_getr (pc' := 19) hC fl_X2_16 (by first | decide | assumption | omega) (by first | rfl | assumption) rfl ⟨dX2_openWithKey_16, rfl⟩ ?_
    refine zk_aload_n (pc' := 20) hC rfl ⟨dX2_openWithKey_19, rfl⟩ ?_
    refine zk_callV0 (pc' := 23) hC ml_X2_40 mi_X0_putAll (c_X0_putAll X (bz_set I 23 24 (0, I 24)) J bz_msg hb hok hok' bz_set_c (Nat.zero_le _) (by rw [bz_set_o hok hk23]; exact he) hen) (by decide) (by first | decide | assumption | omega) (by first | rfl | assumption) rfl rfl rfl (Nat.le_of_ble_eq_true rfl) ⟨dX2_openWithKey_20, rfl⟩ ?_
    rw [bz_set_f (show 24 ≠ 23 by decide), bz_set_set (show 24 ≠ 23 by decide), bz_set_o hk23' hok']
    generalize hp0 : bz_pa 1028 (0, I 24) (I k') e = p0 at hR ⊢
    have hp0c : p0.1 ≤ 1028 := by rw [← hp0]; exact bz_pa_le (Nat.zero_le _) e
    refine zk_aload_n (pc' := 24) hC rfl ⟨dX2_openWithKey_23, rfl⟩ ?_
    refine zk_geti (pc' := 27) hC fl_X2_36 (by first | decide | assumption | omega) (by first | rfl | assumption) rfl ⟨dX2_openWithKey_24, rfl⟩ ?_
    rw [bz_set_o hok hk23, he]
    refine zk_is2 (pc' := 28) hC ⟨dX2_openWithKey_27, rfl⟩ rfl ?_
    refine zk_up (P := fun t => zk_A 0 X E 28 [some (.ref (zk_ad X 22)), some (.ref (zk_ad X k)), some (.int (nI (e + t)))] [] (bz_set I 23 24 (bz_zs p0 t)) J) (128 - e) ?_ (fun t ht ih => ?_)
    · skip
      refine zk_iload_n (pc' := 29) hC rfl ⟨dX2_openWithKey_28, rfl⟩ ?_
      refine zk_sipush (pc' := 32) (x := nI 128) hC ⟨dX2_openWithKey_29, rfl⟩ zc_sipush_128 ?_
      refine zk_icmp_geN (pc' := 35) hC ⟨dX2_openWithKey_32, rfl⟩ 49 (by decide) (by omega) (by omega) (fun q2 => ?_) (fun q2 => ?_)
      · exact zk_vret (pc' := 50) hC hR rfl rfl rfl ⟨dX2_openWithKey_49, rfl⟩
      · omega
    · skip
      refine zk_iload_n (pc' := 29) hC rfl ⟨dX2_openWithKey_28, rfl⟩ ?_
      refine zk_sipush (pc' := 32) (x := nI 128) hC ⟨dX2_openWithKey_29, rfl⟩ zc_sipush_128 ?_
      refine zk_icmp_geN (pc' := 35) hC ⟨dX2_openWithKey_32, rfl⟩ 49 (by decide) (by omega) (by omega) (fun q2 => ?_) (fun q2 => ?_)
      · omega
      · refine zk_aload_n (pc' := 36) hC rfl ⟨dX2_openWithKey_35, rfl⟩ ?_
        refine zk_getr (pc' := 39) hC fl_X2_16 (by first | decide | assumption | omega) (by first | rfl | assumption) rfl ⟨dX2_openWithKey_36, rfl⟩ ?_
        refine zk_iconst (pc' := 40) (x := nI 0) hC ⟨dX2_openWithKey_39, rfl⟩ zc_iconst_0 ?_
        refine zk_callV0 (pc' := 43) hC ml_X2_44 mi_X0_put (c_X0_put X (bz_set I 23 24 (bz_zs p0 t)) J bz_msg (nI 0) bz_set_c (bz_zs_le hp0c t)) (by decide) (by first | decide | assumption | omega) (by first | rfl | assumption) rfl rfl rfl (Nat.le_of_ble_eq_true rfl) ⟨dX2_openWithKey_40, rfl⟩ ?_
        refine zk_eqI (I' := bz_set I 23 24 (bz_zs p0 (t + 1))) (by rw [bz_set_f (by decide), bz_set_set (by decide)]; rfl) ?_
        first | refine zk_in2 (pc' := 46) hC ⟨dX2_openWithKey_43, rfl⟩ ?_ | refine zk_iincG (pc' := 46) hC ⟨dX2_openWithKey_43, rfl⟩ rfl ?_
        refine zk_goto (pc' := 49) hC ⟨dX2_openWithKey_46, rfl⟩ 28 (by decide) ?_
        exact ih
  · rw [if_pos q] at hR
    exact zk_vret (pc' := 15) hC hR rfl rfl rfl ⟨dX2_openWithKey_14, rfl⟩

set_option maxHeartbeats 1000000 in
set_option maxRecDepth 100000 in
theorem c_X2_makeShort (X : zk_X) (I : zk_I) (J : zk_J) {c klen n : Nat} (hc : I 23 1 = nI c) (hcn : c ≤ 1028) (hkl : klen ≤ 64) (hnn : n ≤ 1024) : zk_M 0 X yX2_makeShort cX2_makeShort 3 none (4, 96) [.ref (zk_ad X 22), .int (nI n), .int (nI klen)] I J none (bz_set I 25 26 (hz_gv (hz_dg (I 24) c klen n J 27) (0, I 26) n 8)) (hz_dg (I 24) c klen n J) := by
  refine zk_M.intro (by decide) (lv := [some (.ref (zk_ad X 22)), some (.int (nI n)), some (.int (nI klen))]) rfl rfl (fun E hC hR => ?_)
  refine zk_aload_n (pc' := 1) hC rfl ⟨dX2_makeShort_0, rfl⟩ ?_
  refine zk_getr (pc' := 4) hC fl_X2_20 (by first | decide | assumption | omega) (by first | rfl | assumption) rfl ⟨dX2_makeShort_1, rfl⟩ ?_
  refine zk_callV0 (pc' := 7) hC ml_X2_33 mi_X0_empty (c_X0_empty X I J bz_made) (by decide) (by first | decide | assumption | omega) (by first | rfl | assumption) rfl rfl rfl (Nat.le_of_ble_eq_true rfl) ⟨dX2_makeShort_4, rfl⟩ ?_
  refine zk_eqI (I' := bz_set I 25 26 (0, I 26)) (by rw [bz_set, zk_u_self]) ?_
  refine zk_aload_n (pc' := 8) hC rfl ⟨dX2_makeShort_7, rfl⟩ ?_
  refine zk_iload_n (pc' := 9) hC rfl ⟨dX2_makeShort_8, rfl⟩ ?_
  refine zk_iload_n (pc' := 10) hC rfl ⟨dX2_makeShort_9, rfl⟩ ?_
  refine zk_callV0 (pc' := 13) hC ml_X2_51 mi_X2_digest (c_X2_digest X (bz_set I 25 26 (0, I 26)) J (by rw [bz_set_o (by decide) (by decide)]; exact hc) hcn hkl hnn) (by decide) (by first | decide | assumption | omega) (by first | rfl | assumption) rfl rfl rfl (Nat.le_of_ble_eq_true rfl) ⟨dX2_makeShort_10, rfl⟩ ?_
  rw [bz_set_o (show 24 ≠ 25 by decide) (show 24 ≠ 26 by decide)]
  refine zk_aload_n (pc' := 14) hC rfl ⟨dX2_makeShort_13, rfl⟩ ?_
  refine zk_iload_n (pc' := 15) hC rfl ⟨dX2_makeShort_14, rfl⟩ ?_
  refine zk_callV0 (pc' := 18) hC ml_X2_55 mi_X2_give (c_X2_give X (bz_set I 25 26 (0, I 26)) _ (c := 0) bz_set_c (by decide) hnn) (by decide) (by first | decide | assumption | omega) (by first | rfl | assumption) rfl rfl rfl (Nat.le_of_ble_eq_true rfl) ⟨dX2_makeShort_15, rfl⟩ ?_
  exact zk_vret (pc' := 19) hC hR rfl (by rw [bz_set_f (by decide), bz_set_set (by decide)]) rfl ⟨dX2_makeShort_18, rfl⟩

/-- LONG, by its turns: made, message, rows -/
abbrev hz_T : Type := (Nat × (Nat → Int32)) × (Nat × (Nat → Int32)) × zk_J
def hz_L1 (s : hz_T) : hz_T := (hz_gv (hz_dg s.2.1.2 s.2.1.1 0 64 s.2.2 27) s.1 32 8, hz_ts (hz_dg s.2.1.2 s.2.1.1 0 64 s.2.2 27) s.2.1.2 8, hz_dg s.2.1.2 s.2.1.1 0 64 s.2.2)
def hz_L (s : hz_T) : Nat → hz_T
  | 0 => s
  | t + 1 => hz_L1 (hz_L s t)
def hz_I (I : zk_I) (s : hz_T) : zk_I := bz_set (bz_set I 25 26 s.1) 23 24 s.2.1
def hz_turns (n : Nat) : Nat := (n - 33) / 32
def hz_LE (s : hz_T) (n : Nat) : hz_T := (hz_gv (hz_dg s.2.1.2 s.2.1.1 0 (n - s.1.1) s.2.2 27) s.1 (n - s.1.1) 8, s.2.1, hz_dg s.2.1.2 s.2.1.1 0 (n - s.1.1) s.2.2)
theorem hz_I_m {I : zk_I} {s : hz_T} : hz_I I s 23 1 = nI s.2.1.1 := bz_set_c
theorem hz_I_mf {I : zk_I} {s : hz_T} : hz_I I s 24 = s.2.1.2 := bz_set_f (by decide)
theorem hz_I_d {I : zk_I} {s : hz_T} : hz_I I s 25 1 = nI s.1.1 := by unfold hz_I; rw [bz_set_o (by decide) (by decide)]; exact bz_set_c
theorem hz_I_df {I : zk_I} {s : hz_T} : hz_I I s 26 = s.1.2 := by unfold hz_I; rw [bz_set_o (by decide) (by decide)]; exact bz_set_f (by decide)
theorem bz_set_comm {I : zk_I} {p q : Nat × (Nat → Int32)} : bz_set (bz_set I 23 24 q) 25 26 p = bz_set (bz_set I 25 26 p) 23 24 q := by
  funext a
  by_cases h1 : a = 23
  · subst h1; simp [bz_set, zk_u]
  · by_cases h2 : a = 24
    · subst h2; simp [bz_set, zk_u]
    · by_cases h3 : a = 25
      · subst h3; simp [bz_set, zk_u]
      · by_cases h4 : a = 26
        · subst h4; simp [bz_set, zk_u]
        · simp [bz_set, zk_u, h1, h2, h3, h4]
theorem hz_I_ud {I : zk_I} {s : hz_T} {p : Nat × (Nat → Int32)} : bz_set (hz_I I s) 25 26 p = hz_I I (p, s.2) := by unfold hz_I; rw [bz_set_comm, bz_set_set (by decide)]
theorem hz_I_um {I : zk_I} {s : hz_T} {p : Nat × (Nat → Int32)} {J : zk_J} : bz_set (hz_I I s) 23 24 p = hz_I I (s.1, p, J) := by unfold hz_I; rw [bz_set_set (by decide)]
theorem hz_L_c {s : hz_T} (h0 : s.1.1 = 0) (hm : s.2.1.1 ≤ 1028) : ∀ t, t ≤ 31 → (hz_L s t).1.1 = 32 * t ∧ (hz_L s t).2.1.1 ≤ 1028
  | 0, _ => ⟨by rw [hz_L, h0], by rw [hz_L]; exact hm⟩
  | t + 1, ht => by
    obtain ⟨h1, h2⟩ := hz_L_c h0 hm t (by omega)
    rw [hz_L, hz_L1]
    refine ⟨?_, ?_⟩
    · rw [hz_gv_c (by omega), h1]; omega
    · rw [hz_ts_c 8 (by omega)]; omega

set_option maxHeartbeats 1000000 in
set_option maxRecDepth 100000 in
theorem c_X2_makeLong (X : zk_X) (I : zk_I) (J : zk_J) {c n : Nat} (hc : I 23 1 = nI c) (hcn : c ≤ 1028) (hn1 : 1 ≤ n) (hnn : n ≤ 1024) : zk_M 0 X yX2_makeLong cX2_makeLong 3 none (4, 96) [.ref (zk_ad X 22), .int (nI n)] I J none (hz_I I (hz_LE (hz_L ((0, I 26), (c, I 24), J) (hz_turns n)) n)) (hz_LE (hz_L ((0, I 26), (c, I 24), J) (hz_turns n)) n).2.2 := by
  refine zk_M.intro (by decide) (lv := [some (.ref (zk_ad X 22)), some (.int (nI n)), none]) rfl rfl (fun E hC hR => ?_)
  refine zk_aload_n (pc' := 1) hC rfl ⟨dX2_makeLong_0, rfl⟩ ?_
  refine zk_getr (pc' := 4) hC fl_X2_20 (by first | decide | assumption | omega) (by first | rfl | assumption) rfl ⟨dX2_makeLong_1, rfl⟩ ?_
  refine zk_callV0 (pc' := 7) hC ml_X2_33 mi_X0_empty (c_X0_empty X I J bz_made) (by decide) (by first | decide | assumption | omega) (by first | rfl | assumption) rfl rfl rfl (Nat.le_of_ble_eq_true rfl) ⟨dX2_makeLong_4, rfl⟩ ?_
  refine zk_cast (I' := hz_I I (hz_L ((0, I 26), (c, I 24), J) 0)) (J' := (hz_L ((0, I 26), (c, I 24), J) 0).2.2) ?_ (by
    rw [hz_L, hz_I]
    dsimp only
    rw [show I 24 = (bz_set I 25 26 (0, I 26)) 24 from (bz_set_o (by decide) (by decide)).symm, bz_set_same (by rw [bz_set_o (by decide) (by decide)]; exact hc), bz_set, zk_u_self]) rfl
  have hcnt := hz_L_c (s := ((0, I 26), (c, I 24), J)) rfl hcn
  generalize hs0 : (((0, I 26), (c, I 24), J) : hz_T) = s0 at hR hcnt ⊢
  have hTn : hz_turns n ≤ 30 := by unfold hz_turns; omega
  have hTe : n - 32 * hz_turns n ≤ 64 := by unfold hz_turns; omega
  have hTl : ∀ t, t < hz_turns n → 64 < n - 32 * t := by unfold hz_turns; omega
  have hT3 : 32 * hz_turns n ≤ n := by unfold hz_turns; omega
  generalize hz_turns n = T at hR hTn hTe hTl hT3
  refine zk_iload_n (pc' := 8) hC rfl ⟨dX2_makeLong_7, rfl⟩ ?_
  refine zk_is2 (pc' := 9) hC ⟨dX2_makeLong_8, rfl⟩ rfl ?_
  refine zk_up (P := fun t => zk_A 0 X E 9 [some (.ref (zk_ad X 22)), some (.int (nI n)), some (.int (nI (n - 32 * t)))] [] (hz_I I (hz_L s0 t)) (hz_L s0 t).2.2) T ?_ (fun t ht ih => ?_)
  · skip
    have hcT := hcnt T (by omega)
    refine zk_iload_n (pc' := 10) hC rfl ⟨dX2_makeLong_9, rfl⟩ ?_
    refine zk_bipush (pc' := 12) (x := nI 64) hC ⟨dX2_makeLong_10, rfl⟩ zc_bipush_64 ?_
    refine zk_icmp_leN (pc' := 15) hC ⟨dX2_makeLong_12, rfl⟩ 38 (by decide) (by omega) (by omega) (fun q => ?_) (fun q => ?_)
    · revert hR hcT
      generalize hz_L s0 T = s
      intro hR hcT
      refine zk_iload_n (pc' := 39) hC rfl ⟨dX2_makeLong_38, rfl⟩ ?_
      refine zk_aload_n (pc' := 40) hC rfl ⟨dX2_makeLong_39, rfl⟩ ?_
      refine zk_getr (pc' := 43) hC fl_X2_20 (by first | decide | assumption | omega) (by first | rfl | assumption) rfl ⟨dX2_makeLong_40, rfl⟩ ?_
      refine zk_geti (pc' := 46) hC fl_X2_36 (by first | decide | assumption | omega) (by first | rfl | assumption) rfl ⟨dX2_makeLong_43, rfl⟩ ?_
      rw [hz_I_d]
      first | refine zk_isubN (pc' := 47) hC ⟨dX2_makeLong_46, rfl⟩ (by omega) ?_ | refine zk_isub (pc' := 47) hC ⟨dX2_makeLong_46, rfl⟩ ?_
      refine zk_is2 (pc' := 48) hC ⟨dX2_makeLong_47, rfl⟩ rfl ?_
      refine zk_aload_n (pc' := 49) hC rfl ⟨dX2_makeLong_48, rfl⟩ ?_
      refine zk_iload_n (pc' := 50) hC rfl ⟨dX2_makeLong_49, rfl⟩ ?_
      refine zk_iconst (pc' := 51) (x := nI 0) hC ⟨dX2_makeLong_50, rfl⟩ zc_iconst_0 ?_
      refine zk_callV0 (pc' := 54) hC ml_X2_51 mi_X2_digest (c_X2_digest X (hz_I I s) s.2.2 hz_I_m hcT.2 (klen := 0) (by decide) (n := n - s.1.1) (by omega)) (by decide) (by first | decide | assumption | omega) (by first | rfl | assumption) rfl rfl rfl (Nat.le_of_ble_eq_true rfl) ⟨dX2_makeLong_51, rfl⟩ ?_
      rw [hz_I_mf]
      refine zk_aload_n (pc' := 55) hC rfl ⟨dX2_makeLong_54, rfl⟩ ?_
      refine zk_iload_n (pc' := 56) hC rfl ⟨dX2_makeLong_55, rfl⟩ ?_
      refine zk_callV0 (pc' := 59) hC ml_X2_55 mi_X2_give (c_X2_give X (hz_I I s) _ hz_I_d (by omega) (n := n - s.1.1) (by omega)) (by decide) (by first | decide | assumption | omega) (by first | rfl | assumption) rfl rfl rfl (Nat.le_of_ble_eq_true rfl) ⟨dX2_makeLong_56, rfl⟩ ?_
      rw [hz_I_df, hz_I_ud]
      exact zk_vret (pc' := 60) hC hR rfl rfl rfl ⟨dX2_makeLong_59, rfl⟩
    · omega
  · skip
    have hcT := hcnt t (by omega)
    have hTl := hTl t ht
    refine zk_iload_n (pc' := 10) hC rfl ⟨dX2_makeLong_9, rfl⟩ ?_
    refine zk_bipush (pc' := 12) (x := nI 64) hC ⟨dX2_makeLong_10, rfl⟩ zc_bipush_64 ?_
    refine zk_icmp_leN (pc' := 15) hC ⟨dX2_makeLong_12, rfl⟩ 38 (by decide) (by omega) (by omega) (fun q => ?_) (fun q => ?_)
    · omega
    · revert ih hcT
      show zk_A 0 X E 9 [some (.ref (zk_ad X 22)), some (.int (nI n)), some (.int (nI (n - 32 * (t + 1))))] [] (hz_I I (hz_L1 (hz_L s0 t))) (hz_L1 (hz_L s0 t)).2.2 → _ → _
      generalize hz_L s0 t = s
      intro ih hcT
      refine zk_aload_n (pc' := 16) hC rfl ⟨dX2_makeLong_15, rfl⟩ ?_
      refine zk_bipush (pc' := 18) (x := nI 64) hC ⟨dX2_makeLong_16, rfl⟩ zc_bipush_64 ?_
      refine zk_iconst (pc' := 19) (x := nI 0) hC ⟨dX2_makeLong_18, rfl⟩ zc_iconst_0 ?_
      refine zk_callV0 (pc' := 22) hC ml_X2_51 mi_X2_digest (c_X2_digest X (hz_I I s) s.2.2 hz_I_m hcT.2 (klen := 0) (by decide) (n := 64) (by decide)) (by decide) (by first | decide | assumption | omega) (by first | rfl | assumption) rfl rfl rfl (Nat.le_of_ble_eq_true rfl) ⟨dX2_makeLong_19, rfl⟩ ?_
      rw [hz_I_mf]
      refine zk_aload_n (pc' := 23) hC rfl ⟨dX2_makeLong_22, rfl⟩ ?_
      refine zk_bipush (pc' := 25) (x := nI 32) hC ⟨dX2_makeLong_23, rfl⟩ zc_bipush_32 ?_
      refine zk_callV0 (pc' := 28) hC ml_X2_55 mi_X2_give (c_X2_give X (hz_I I s) _ hz_I_d (by omega) (n := 32) (by decide)) (by decide) (by first | decide | assumption | omega) (by first | rfl | assumption) rfl rfl rfl (Nat.le_of_ble_eq_true rfl) ⟨dX2_makeLong_25, rfl⟩ ?_
      rw [hz_I_df, hz_I_ud]
      refine zk_aload_n (pc' := 29) hC rfl ⟨dX2_makeLong_28, rfl⟩ ?_
      refine zk_callV0 (pc' := 32) hC ml_X2_58 mi_X2_takeStateAsMessage (c_X2_takeStateAsMessage X _ _) (by decide) (by first | decide | assumption | omega) (by first | rfl | assumption) rfl rfl rfl (Nat.le_of_ble_eq_true rfl) ⟨dX2_makeLong_29, rfl⟩ ?_
      rw [hz_I_mf, hz_I_um (J := hz_dg s.2.1.2 s.2.1.1 0 64 s.2.2)]
      refine zk_iincG (pc' := 35) hC ⟨dX2_makeLong_32, rfl⟩ rfl ?_
      rw [zk_m32 (by omega), show n - 32 * t - 32 = n - 32 * (t + 1) by omega]
      refine zk_goto (pc' := 38) hC ⟨dX2_makeLong_35, rfl⟩ 9 (by decide) ?_
      rw [hz_L1] at ih
      dsimp only at ih ⊢
      exact ih

