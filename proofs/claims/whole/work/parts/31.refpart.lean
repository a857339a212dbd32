/-! THE REFERENCE: the hash -/
def md_cp (f : Nat → Int32) (o : Nat) (g : Nat → Int32) (n : Nat) : Nat → Int32 := fun j => if o ≤ j ∧ j < o + n then g (j - o) else f j
theorem md_cp_0 (f : Nat → Int32) (o : Nat) (g : Nat → Int32) : md_cp f o g 0 = f := by funext j; unfold md_cp; rw [if_neg (by omega)]
theorem md_cp_S (f : Nat → Int32) (o : Nat) (g : Nat → Int32) (n : Nat) {x : Int32} (hx : x = g n) : upd (md_cp f o g n) (o + n) x = md_cp f o g (n + 1) := by
  subst hx
  funext j
  unfold upd md_cp
  by_cases h : j = o + n
  · subst h; rw [if_pos rfl, if_pos (by omega), show o + n - o = n by omega]
  · rw [if_neg h]
    by_cases h2 : o ≤ j ∧ j < o + n
    · rw [if_pos h2, if_pos (by omega)]
    · rw [if_neg h2, if_neg (by omega)]
def md_ol : List Int64 := [-81985529216486896, 3853709921291437230, 5266788149650328715, -8141200382097550441, -3204650750919412471, -7931023849780369726, -5176546439255363236, -6744053556625741891, 6503616966983130870, 991893350865389610]
def md_o (r : Nat) : Int64 := md_ol.getD (r % 10) 0
theorem md_nib : ∀ r, r < 12 → ∀ k, k < 16 → ((md_o r >>> ((nI (4 * k)).toInt64 &&& 63)) &&& 15).toInt32 = nI (zk_ord.getD (r % 10 * 16 + k) 0) := by decide +kernel

set_option maxHeartbeats 1000000 in
set_option maxRecDepth 100000 in
theorem c_X5_give (X : zk_X) (I : zk_I) (J : zk_J) {r n : Nat} (hr : r < 8) (hn : n ≤ 200) : zk_M 1 X yX5_give cX5_give 4 none (0, 0) [.ref (zk_ad X 0), .int (nI r), .int (nI n)] I J none (zk_u (zk_u I 2 (md_cp (I 2) (200 * r) (I 8) n)) 1 (upd (I 1) r (nI n))) J := by
  refine zk_M.intro (by decide) (lv := [some (.ref (zk_ad X 0)), some (.int (nI r)), some (.int (nI n)), none]) rfl rfl (fun E hC hR => ?_)
  refine zk_iconst (pc' := 1) (x := nI 0) hC ⟨dX5_give_0, rfl⟩ zc_iconst_0 ?_
  refine zk_is3 (pc' := 2) hC ⟨dX5_give_1, rfl⟩ rfl ?_
  refine zk_eqI (I' := zk_u I 2 (md_cp (I 2) (200 * r) (I 8) 0)) (by rw [md_cp_0, zk_u_self]) ?_
  refine zk_up (P := fun k => zk_A 1 X E 2 [some (.ref (zk_ad X 0)), some (.int (nI r)), some (.int (nI n)), some (.int (nI k))] [] (zk_u I 2 (md_cp (I 2) (200 * r) (I 8) k)) J) n ?_ (fun k hk ih => ?_)
  · skip
    refine zk_iload_n (pc' := 3) hC rfl ⟨dX5_give_2, rfl⟩ ?_
    refine zk_iload_n (pc' := 4) hC rfl ⟨dX5_give_3, rfl⟩ ?_
    refine zk_icmp_geN (pc' := 7) hC ⟨dX5_give_4, rfl⟩ 31 (by decide) (by omega) (by omega) (fun q => ?_) (fun q => ?_)
    · refine zk_aload_n (pc' := 32) hC rfl ⟨dX5_give_31, rfl⟩ ?_
      refine zk_getr (pc' := 35) hC fl_X5_7 (by first | decide | assumption | omega) (by first | rfl | assumption) rfl ⟨dX5_give_32, rfl⟩ ?_
      refine zk_iload_n (pc' := 36) hC rfl ⟨dX5_give_35, rfl⟩ ?_
      refine zk_iload_n (pc' := 37) hC rfl ⟨dX5_give_36, rfl⟩ ?_
      first | refine zk_iastU (pc' := 38) hC (by first | decide | assumption | omega) (by first | rfl | assumption) (by omega) (by first | decide | omega) ⟨dX5_give_37, rfl⟩ ?_ | refine zk_iastN (pc' := 38) hC (by first | decide | assumption | omega) (by first | rfl | assumption) (by omega) (by first | decide | omega) ⟨dX5_give_37, rfl⟩ ?_
      refine zk_eqI (I' := zk_u (zk_u I 2 (md_cp (I 2) (200 * r) (I 8) n)) 1 (upd (I 1) r (nI n))) (by rw [zk_u_n (show 1 ≠ 2 by decide)]) ?_
      exact zk_vret (pc' := 39) hC hR rfl rfl rfl ⟨dX5_give_38, rfl⟩
    · omega
  · skip
    refine zk_iload_n (pc' := 3) hC rfl ⟨dX5_give_2, rfl⟩ ?_
    refine zk_iload_n (pc' := 4) hC rfl ⟨dX5_give_3, rfl⟩ ?_
    refine zk_icmp_geN (pc' := 7) hC ⟨dX5_give_4, rfl⟩ 31 (by decide) (by omega) (by omega) (fun q => ?_) (fun q => ?_)
    · omega
    · refine zk_aload_n (pc' := 8) hC rfl ⟨dX5_give_7, rfl⟩ ?_
      refine zk_getr (pc' := 11) hC fl_X5_13 (by first | decide | assumption | omega) (by first | rfl | assumption) rfl ⟨dX5_give_8, rfl⟩ ?_
      refine zk_sipush (pc' := 14) (x := nI 200) hC ⟨dX5_give_11, rfl⟩ zc_sipush_200 ?_
      refine zk_iload_n (pc' := 15) hC rfl ⟨dX5_give_14, rfl⟩ ?_
      first | refine zk_imulN (pc' := 16) hC ⟨dX5_give_15, rfl⟩ ?_ | refine zk_imul (pc' := 16) hC ⟨dX5_give_15, rfl⟩ ?_
      refine zk_iload_n (pc' := 17) hC rfl ⟨dX5_give_16, rfl⟩ ?_
      first | refine zk_iaddN (pc' := 18) hC ⟨dX5_give_17, rfl⟩ ?_ | refine zk_iadd (pc' := 18) hC ⟨dX5_give_17, rfl⟩ ?_
      refine zk_aload_n (pc' := 19) hC rfl ⟨dX5_give_18, rfl⟩ ?_
      refine zk_getr (pc' := 22) hC fl_X5_32 (by first | decide | assumption | omega) (by first | rfl | assumption) rfl ⟨dX5_give_19, rfl⟩ ?_
      refine zk_iload_n (pc' := 23) hC rfl ⟨dX5_give_22, rfl⟩ ?_
      first | refine zk_ialdU (pc' := 24) hC (by first | decide | assumption | omega) (by first | rfl | assumption) (by omega) (by first | decide | omega) ⟨dX5_give_23, rfl⟩ ?_ | refine zk_ialdN (pc' := 24) hC (by first | decide | assumption | omega) (by first | rfl | assumption) (by omega) (by first | decide | omega) ⟨dX5_give_23, rfl⟩ ?_ | refine zk_t0N (pc' := 24) hC (by omega) ⟨dX5_give_23, rfl⟩ ?_ | refine zk_t2N (pc' := 24) hC (by omega) ⟨dX5_give_23, rfl⟩ ?_
      rw [zk_u_n (show 8 ≠ 2 by decide)]
      first | refine zk_iastU (pc' := 25) hC (by first | decide | assumption | omega) (by first | rfl | assumption) (by omega) (by first | decide | omega) ⟨dX5_give_24, rfl⟩ ?_ | refine zk_iastN (pc' := 25) hC (by first | decide | assumption | omega) (by first | rfl | assumption) (by omega) (by first | decide | omega) ⟨dX5_give_24, rfl⟩ ?_
      rw [md_cp_S _ _ _ k rfl]
      first | refine zk_in3 (pc' := 28) hC ⟨dX5_give_25, rfl⟩ ?_ | refine zk_iincG (pc' := 28) hC ⟨dX5_give_25, rfl⟩ rfl ?_
      refine zk_goto (pc' := 31) hC ⟨dX5_give_28, rfl⟩ 2 (by decide) ?_
      exact ih

set_option maxHeartbeats 1000000 in
set_option maxRecDepth 100000 in
theorem c_X5_start (X : zk_X) (I : zk_I) (J : zk_J) (k : Nat) (hk : k < 8) : zk_M 1 X yX5_start cX5_start 1 ((some .long)) (0, 0) [.int (nI k)] I J (some (.long (zk_start.getD k 0))) I J := by
  refine zk_M.intro (by decide) (lv := [some (.int (nI k))]) rfl rfl (fun E hC hR => ?_)
  match k, hk with
  | 0, _ =>
    refine zk_iload_n (pc' := 1) hC rfl ⟨dX5_start_0, rfl⟩ ?_
    refine zk_if_neN (pc' := 4) hC ⟨dX5_start_1, rfl⟩ 10 (by decide) (by omega) (fun q0 => ?_) (fun q0 => ?_)
    · omega
    · refine zk_ldc2 (pc' := 7) (x := 7640891576956012808) hC ⟨dX5_start_4, rfl⟩ kl_X5_64 ?_
      refine zk_goto (pc' := 10) hC ⟨dX5_start_7, rfl⟩ 80 (by decide) ?_
      exact zk_lret (pc' := 81) hC hR rfl rfl rfl ⟨dX5_start_80, rfl⟩
  | 1, _ =>
    refine zk_iload_n (pc' := 1) hC rfl ⟨dX5_start_0, rfl⟩ ?_
    refine zk_if_neN (pc' := 4) hC ⟨dX5_start_1, rfl⟩ 10 (by decide) (by omega) (fun q0 => ?_) (fun q0 => ?_)
    · refine zk_iload_n (pc' := 11) hC rfl ⟨dX5_start_10, rfl⟩ ?_
      refine zk_iconst (pc' := 12) (x := nI 1) hC ⟨dX5_start_11, rfl⟩ zc_iconst_1 ?_
      refine zk_icmp_neN (pc' := 15) hC ⟨dX5_start_12, rfl⟩ 21 (by decide) (by omega) (by omega) (fun q1 => ?_) (fun q1 => ?_)
      · omega
      · refine zk_ldc2 (pc' := 18) (x := -4942790177534073029) hC ⟨dX5_start_15, rfl⟩ kl_X5_66 ?_
        refine zk_goto (pc' := 21) hC ⟨dX5_start_18, rfl⟩ 80 (by decide) ?_
        exact zk_lret (pc' := 81) hC hR rfl rfl rfl ⟨dX5_start_80, rfl⟩
    · omega
  | 2, _ =>
    refine zk_iload_n (pc' := 1) hC rfl ⟨dX5_start_0, rfl⟩ ?_
    refine zk_if_neN (pc' := 4) hC ⟨dX5_start_1, rfl⟩ 10 (by decide) (by omega) (fun q0 => ?_) (fun q0 => ?_)
    · refine zk_iload_n (pc' := 11) hC rfl ⟨dX5_start_10, rfl⟩ ?_
      refine zk_iconst (pc' := 12) (x := nI 1) hC ⟨dX5_start_11, rfl⟩ zc_iconst_1 ?_
      refine zk_icmp_neN (pc' := 15) hC ⟨dX5_start_12, rfl⟩ 21 (by decide) (by omega) (by omega) (fun q1 => ?_) (fun q1 => ?_)
      · refine zk_iload_n (pc' := 22) hC rfl ⟨dX5_start_21, rfl⟩ ?_
        refine zk_iconst (pc' := 23) (x := nI 2) hC ⟨dX5_start_22, rfl⟩ zc_iconst_2 ?_
        refine zk_icmp_neN (pc' := 26) hC ⟨dX5_start_23, rfl⟩ 32 (by decide) (by omega) (by omega) (fun q2 => ?_) (fun q2 => ?_)
        · omega
        · refine zk_ldc2 (pc' := 29) (x := 4354685564936845355) hC ⟨dX5_start_26, rfl⟩ kl_X5_68 ?_
          refine zk_goto (pc' := 32) hC ⟨dX5_start_29, rfl⟩ 80 (by decide) ?_
          exact zk_lret (pc' := 81) hC hR rfl rfl rfl ⟨dX5_start_80, rfl⟩
      · omega
    · omega
  | 3, _ =>
    refine zk_iload_n (pc' := 1) hC rfl ⟨dX5_start_0, rfl⟩ ?_
    refine zk_if_neN (pc' := 4) hC ⟨dX5_start_1, rfl⟩ 10 (by decide) (by omega) (fun q0 => ?_) (fun q0 => ?_)
    · refine zk_iload_n (pc' := 11) hC rfl ⟨dX5_start_10, rfl⟩ ?_
      refine zk_iconst (pc' := 12) (x := nI 1) hC ⟨dX5_start_11, rfl⟩ zc_iconst_1 ?_
      refine zk_icmp_neN (pc' := 15) hC ⟨dX5_start_12, rfl⟩ 21 (by decide) (by omega) (by omega) (fun q1 => ?_) (fun q1 => ?_)
      · refine zk_iload_n (pc' := 22) hC rfl ⟨dX5_start_21, rfl⟩ ?_
        refine zk_iconst (pc' := 23) (x := nI 2) hC ⟨dX5_start_22, rfl⟩ zc_iconst_2 ?_
        refine zk_icmp_neN (pc' := 26) hC ⟨dX5_start_23, rfl⟩ 32 (by decide) (by omega) (by omega) (fun q2 => ?_) (fun q2 => ?_)
        · refine zk_iload_n (pc' := 33) hC rfl ⟨dX5_start_32, rfl⟩ ?_
          refine zk_iconst (pc' := 34) (x := nI 3) hC ⟨dX5_start_33, rfl⟩ zc_iconst_3 ?_
          refine zk_icmp_neN (pc' := 37) hC ⟨dX5_start_34, rfl⟩ 43 (by decide) (by omega) (by omega) (fun q3 => ?_) (fun q3 => ?_)
          · omega
          · refine zk_ldc2 (pc' := 40) (x := -6534734903238641935) hC ⟨dX5_start_37, rfl⟩ kl_X5_70 ?_
            refine zk_goto (pc' := 43) hC ⟨dX5_start_40, rfl⟩ 80 (by decide) ?_
            exact zk_lret (pc' := 81) hC hR rfl rfl rfl ⟨dX5_start_80, rfl⟩
        · omega
      · omega
    · omega
  | 4, _ =>
    refine zk_iload_n (pc' := 1) hC rfl ⟨dX5_start_0, rfl⟩ ?_
    refine zk_if_neN (pc' := 4) hC ⟨dX5_start_1, rfl⟩ 10 (by decide) (by omega) (fun q0 => ?_) (fun q0 => ?_)
    · refine zk_iload_n (pc' := 11) hC rfl ⟨dX5_start_10, rfl⟩ ?_
      refine zk_iconst (pc' := 12) (x := nI 1) hC ⟨dX5_start_11, rfl⟩ zc_iconst_1 ?_
      refine zk_icmp_neN (pc' := 15) hC ⟨dX5_start_12, rfl⟩ 21 (by decide) (by omega) (by omega) (fun q1 => ?_) (fun q1 => ?_)
      · refine zk_iload_n (pc' := 22) hC rfl ⟨dX5_start_21, rfl⟩ ?_
        refine zk_iconst (pc' := 23) (x := nI 2) hC ⟨dX5_start_22, rfl⟩ zc_iconst_2 ?_
        refine zk_icmp_neN (pc' := 26) hC ⟨dX5_start_23, rfl⟩ 32 (by decide) (by omega) (by omega) (fun q2 => ?_) (fun q2 => ?_)
        · refine zk_iload_n (pc' := 33) hC rfl ⟨dX5_start_32, rfl⟩ ?_
          refine zk_iconst (pc' := 34) (x := nI 3) hC ⟨dX5_start_33, rfl⟩ zc_iconst_3 ?_
          refine zk_icmp_neN (pc' := 37) hC ⟨dX5_start_34, rfl⟩ 43 (by decide) (by omega) (by omega) (fun q3 => ?_) (fun q3 => ?_)
          · refine zk_iload_n (pc' := 44) hC rfl ⟨dX5_start_43, rfl⟩ ?_
            refine zk_iconst (pc' := 45) (x := nI 4) hC ⟨dX5_start_44, rfl⟩ zc_iconst_4 ?_
            refine zk_icmp_neN (pc' := 48) hC ⟨dX5_start_45, rfl⟩ 54 (by decide) (by omega) (by omega) (fun q4 => ?_) (fun q4 => ?_)
            · omega
            · refine zk_ldc2 (pc' := 51) (x := 5840696475078001361) hC ⟨dX5_start_48, rfl⟩ kl_X5_72 ?_
              refine zk_goto (pc' := 54) hC ⟨dX5_start_51, rfl⟩ 80 (by decide) ?_
              exact zk_lret (pc' := 81) hC hR rfl rfl rfl ⟨dX5_start_80, rfl⟩
          · omega
        · omega
      · omega
    · omega
  | 5, _ =>
    refine zk_iload_n (pc' := 1) hC rfl ⟨dX5_start_0, rfl⟩ ?_
    refine zk_if_neN (pc' := 4) hC ⟨dX5_start_1, rfl⟩ 10 (by decide) (by omega) (fun q0 => ?_) (fun q0 => ?_)
    · refine zk_iload_n (pc' := 11) hC rfl ⟨dX5_start_10, rfl⟩ ?_
      refine zk_iconst (pc' := 12) (x := nI 1) hC ⟨dX5_start_11, rfl⟩ zc_iconst_1 ?_
      refine zk_icmp_neN (pc' := 15) hC ⟨dX5_start_12, rfl⟩ 21 (by decide) (by omega) (by omega) (fun q1 => ?_) (fun q1 => ?_)
      · refine zk_iload_n (pc' := 22) hC rfl ⟨dX5_start_21, rfl⟩ ?_
        refine zk_iconst (pc' := 23) (x := nI 2) hC ⟨dX5_start_22, rfl⟩ zc_iconst_2 ?_
        refine zk_icmp_neN (pc' := 26) hC ⟨dX5_start_23, rfl⟩ 32 (by decide) (by omega) (by omega) (fun q2 => ?_) (fun q2 => ?_)
        · refine zk_iload_n (pc' := 33) hC rfl ⟨dX5_start_32, rfl⟩ ?_
          refine zk_iconst (pc' := 34) (x := nI 3) hC ⟨dX5_start_33, rfl⟩ zc_iconst_3 ?_
          refine zk_icmp_neN (pc' := 37) hC ⟨dX5_start_34, rfl⟩ 43 (by decide) (by omega) (by omega) (fun q3 => ?_) (fun q3 => ?_)
          · refine zk_iload_n (pc' := 44) hC rfl ⟨dX5_start_43, rfl⟩ ?_
            refine zk_iconst (pc' := 45) (x := nI 4) hC ⟨dX5_start_44, rfl⟩ zc_iconst_4 ?_
            refine zk_icmp_neN (pc' := 48) hC ⟨dX5_start_45, rfl⟩ 54 (by decide) (by omega) (by omega) (fun q4 => ?_) (fun q4 => ?_)
            · refine zk_iload_n (pc' := 55) hC rfl ⟨dX5_start_54, rfl⟩ ?_
              refine zk_iconst (pc' := 56) (x := nI 5) hC ⟨dX5_start_55, rfl⟩ zc_iconst_5 ?_
              refine zk_icmp_neN (pc' := 59) hC ⟨dX5_start_56, rfl⟩ 65 (by decide) (by omega) (by omega) (fun q5 => ?_) (fun q5 => ?_)
              · omega
              · refine zk_ldc2 (pc' := 62) (x := -7276294671716946913) hC ⟨dX5_start_59, rfl⟩ kl_X5_74 ?_
                refine zk_goto (pc' := 65) hC ⟨dX5_start_62, rfl⟩ 80 (by decide) ?_
                exact zk_lret (pc' := 81) hC hR rfl rfl rfl ⟨dX5_start_80, rfl⟩
            · omega
          · omega
        · omega
      · omega
    · omega
  | 6, _ =>
    refine zk_iload_n (pc' := 1) hC rfl ⟨dX5_start_0, rfl⟩ ?_
    refine zk_if_neN (pc' := 4) hC ⟨dX5_start_1, rfl⟩ 10 (by decide) (by omega) (fun q0 => ?_) (fun q0 => ?_)
    · refine zk_iload_n (pc' := 11) hC rfl ⟨dX5_start_10, rfl⟩ ?_
      refine zk_iconst (pc' := 12) (x := nI 1) hC ⟨dX5_start_11, rfl⟩ zc_iconst_1 ?_
      refine zk_icmp_neN (pc' := 15) hC ⟨dX5_start_12, rfl⟩ 21 (by decide) (by omega) (by omega) (fun q1 => ?_) (fun q1 => ?_)
      · refine zk_iload_n (pc' := 22) hC rfl ⟨dX5_start_21, rfl⟩ ?_
        refine zk_iconst (pc' := 23) (x := nI 2) hC ⟨dX5_start_22, rfl⟩ zc_iconst_2 ?_
        refine zk_icmp_neN (pc' := 26) hC ⟨dX5_start_23, rfl⟩ 32 (by decide) (by omega) (by omega) (fun q2 => ?_) (fun q2 => ?_)
        · refine zk_iload_n (pc' := 33) hC rfl ⟨dX5_start_32, rfl⟩ ?_
          refine zk_iconst (pc' := 34) (x := nI 3) hC ⟨dX5_start_33, rfl⟩ zc_iconst_3 ?_
          refine zk_icmp_neN (pc' := 37) hC ⟨dX5_start_34, rfl⟩ 43 (by decide) (by omega) (by omega) (fun q3 => ?_) (fun q3 => ?_)
          · refine zk_iload_n (pc' := 44) hC rfl ⟨dX5_start_43, rfl⟩ ?_
            refine zk_iconst (pc' := 45) (x := nI 4) hC ⟨dX5_start_44, rfl⟩ zc_iconst_4 ?_
            refine zk_icmp_neN (pc' := 48) hC ⟨dX5_start_45, rfl⟩ 54 (by decide) (by omega) (by omega) (fun q4 => ?_) (fun q4 => ?_)
            · refine zk_iload_n (pc' := 55) hC rfl ⟨dX5_start_54, rfl⟩ ?_
              refine zk_iconst (pc' := 56) (x := nI 5) hC ⟨dX5_start_55, rfl⟩ zc_iconst_5 ?_
              refine zk_icmp_neN (pc' := 59) hC ⟨dX5_start_56, rfl⟩ 65 (by decide) (by omega) (by omega) (fun q5 => ?_) (fun q5 => ?_)
              · refine zk_iload_n (pc' := 66) hC rfl ⟨dX5_start_65, rfl⟩ ?_
                refine zk_bipush (pc' := 68) (x := nI 6) hC ⟨dX5_start_66, rfl⟩ zc_bipush_6 ?_
                refine zk_icmp_neN (pc' := 71) hC ⟨dX5_start_68, rfl⟩ 77 (by decide) (by omega) (by omega) (fun q6 => ?_) (fun q6 => ?_)
                · omega
                · refine zk_ldc2 (pc' := 74) (x := 2270897969802886507) hC ⟨dX5_start_71, rfl⟩ kl_X5_76 ?_
                  refine zk_goto (pc' := 77) hC ⟨dX5_start_74, rfl⟩ 80 (by decide) ?_
                  exact zk_lret (pc' := 81) hC hR rfl rfl rfl ⟨dX5_start_80, rfl⟩
              · omega
            · omega
          · omega
        · omega
      · omega
    · omega
  | 7, _ =>
    refine zk_iload_n (pc' := 1) hC rfl ⟨dX5_start_0, rfl⟩ ?_
    refine zk_if_neN (pc' := 4) hC ⟨dX5_start_1, rfl⟩ 10 (by decide) (by omega) (fun q0 => ?_) (fun q0 => ?_)
    · refine zk_iload_n (pc' := 11) hC rfl ⟨dX5_start_10, rfl⟩ ?_
      refine zk_iconst (pc' := 12) (x := nI 1) hC ⟨dX5_start_11, rfl⟩ zc_iconst_1 ?_
      refine zk_icmp_neN (pc' := 15) hC ⟨dX5_start_12, rfl⟩ 21 (by decide) (by omega) (by omega) (fun q1 => ?_) (fun q1 => ?_)
      · refine zk_iload_n (pc' := 22) hC rfl ⟨dX5_start_21, rfl⟩ ?_
        refine zk_iconst (pc' := 23) (x := nI 2) hC ⟨dX5_start_22, rfl⟩ zc_iconst_2 ?_
        refine zk_icmp_neN (pc' := 26) hC ⟨dX5_start_23, rfl⟩ 32 (by decide) (by omega) (by omega) (fun q2 => ?_) (fun q2 => ?_)
        · refine zk_iload_n (pc' := 33) hC rfl ⟨dX5_start_32, rfl⟩ ?_
          refine zk_iconst (pc' := 34) (x := nI 3) hC ⟨dX5_start_33, rfl⟩ zc_iconst_3 ?_
          refine zk_icmp_neN (pc' := 37) hC ⟨dX5_start_34, rfl⟩ 43 (by decide) (by omega) (by omega) (fun q3 => ?_) (fun q3 => ?_)
          · refine zk_iload_n (pc' := 44) hC rfl ⟨dX5_start_43, rfl⟩ ?_
            refine zk_iconst (pc' := 45) (x := nI 4) hC ⟨dX5_start_44, rfl⟩ zc_iconst_4 ?_
            refine zk_icmp_neN (pc' := 48) hC ⟨dX5_start_45, rfl⟩ 54 (by decide) (by omega) (by omega) (fun q4 => ?_) (fun q4 => ?_)
            · refine zk_iload_n (pc' := 55) hC rfl ⟨dX5_start_54, rfl⟩ ?_
              refine zk_iconst (pc' := 56) (x := nI 5) hC ⟨dX5_start_55, rfl⟩ zc_iconst_5 ?_
              refine zk_icmp_neN (pc' := 59) hC ⟨dX5_start_56, rfl⟩ 65 (by decide) (by omega) (by omega) (fun q5 => ?_) (fun q5 => ?_)
              · refine zk_iload_n (pc' := 66) hC rfl ⟨dX5_start_65, rfl⟩ ?_
                refine zk_bipush (pc' := 68) (x := nI 6) hC ⟨dX5_start_66, rfl⟩ zc_bipush_6 ?_
                refine zk_icmp_neN (pc' := 71) hC ⟨dX5_start_68, rfl⟩ 77 (by decide) (by omega) (by omega) (fun q6 => ?_) (fun q6 => ?_)
                · refine zk_ldc2 (pc' := 80) (x := 6620516959819538809) hC ⟨dX5_start_77, rfl⟩ kl_X5_78 ?_
                  exact zk_lret (pc' := 81) hC hR rfl rfl rfl ⟨dX5_start_80, rfl⟩
                · omega
              · omega
            · omega
          · omega
        · omega
      · omega
    · omega
  | _ + 8, h => exact absurd h (by omega)

set_option maxHeartbeats 1000000 in
set_option maxRecDepth 100000 in
theorem c_X5_order (X : zk_X) (I : zk_I) (J : zk_J) (r : Nat) (hr : r < 12) : zk_M 1 X yX5_order cX5_order 1 ((some .long)) (0, 0) [.int (nI r)] I J (some (.long (md_o r))) I J := by
  refine zk_M.intro (by decide) (lv := [some (.int (nI r))]) rfl rfl (fun E hC hR => ?_)
  match r, hr with
  | 0, _ =>
    refine zk_iload_n (pc' := 1) hC rfl ⟨dX5_order_0, rfl⟩ ?_
    refine zk_bipush (pc' := 3) (x := nI 10) hC ⟨dX5_order_1, rfl⟩ zc_bipush_10 ?_
    first | refine zk_iremN (pc' := 4) hC ⟨dX5_order_3, rfl⟩ (by omega) (by omega) (by omega) ?_ | refine zk_irem (pc' := 4) hC ⟨dX5_order_3, rfl⟩ (by first | assumption | decide) ?_
    refine zk_tabIn hC dX5_order_4 56 (by decide +kernel) (by decide +kernel) (off := 52) (by decide +kernel) (by decide) ?_
    refine zk_ldc2 (pc' := 59) (x := -81985529216486896) hC ⟨dX5_order_56, rfl⟩ kl_X5_80 ?_
    exact zk_lret (pc' := 60) hC hR rfl rfl rfl ⟨dX5_order_59, rfl⟩
  | 1, _ =>
    refine zk_iload_n (pc' := 1) hC rfl ⟨dX5_order_0, rfl⟩ ?_
    refine zk_bipush (pc' := 3) (x := nI 10) hC ⟨dX5_order_1, rfl⟩ zc_bipush_10 ?_
    first | refine zk_iremN (pc' := 4) hC ⟨dX5_order_3, rfl⟩ (by omega) (by omega) (by omega) ?_ | refine zk_irem (pc' := 4) hC ⟨dX5_order_3, rfl⟩ (by first | assumption | decide) ?_
    refine zk_tabIn hC dX5_order_4 60 (by decide +kernel) (by decide +kernel) (off := 56) (by decide +kernel) (by decide) ?_
    refine zk_ldc2 (pc' := 63) (x := 3853709921291437230) hC ⟨dX5_order_60, rfl⟩ kl_X5_82 ?_
    exact zk_lret (pc' := 64) hC hR rfl rfl rfl ⟨dX5_order_63, rfl⟩
  | 2, _ =>
    refine zk_iload_n (pc' := 1) hC rfl ⟨dX5_order_0, rfl⟩ ?_
    refine zk_bipush (pc' := 3) (x := nI 10) hC ⟨dX5_order_1, rfl⟩ zc_bipush_10 ?_
    first | refine zk_iremN (pc' := 4) hC ⟨dX5_order_3, rfl⟩ (by omega) (by omega) (by omega) ?_ | refine zk_irem (pc' := 4) hC ⟨dX5_order_3, rfl⟩ (by first | assumption | decide) ?_
    refine zk_tabIn hC dX5_order_4 64 (by decide +kernel) (by decide +kernel) (off := 60) (by decide +kernel) (by decide) ?_
    refine zk_ldc2 (pc' := 67) (x := 5266788149650328715) hC ⟨dX5_order_64, rfl⟩ kl_X5_84 ?_
    exact zk_lret (pc' := 68) hC hR rfl rfl rfl ⟨dX5_order_67, rfl⟩
  | 3, _ =>
    refine zk_iload_n (pc' := 1) hC rfl ⟨dX5_order_0, rfl⟩ ?_
    refine zk_bipush (pc' := 3) (x := nI 10) hC ⟨dX5_order_1, rfl⟩ zc_bipush_10 ?_
    first | refine zk_iremN (pc' := 4) hC ⟨dX5_order_3, rfl⟩ (by omega) (by omega) (by omega) ?_ | refine zk_irem (pc' := 4) hC ⟨dX5_order_3, rfl⟩ (by first | assumption | decide) ?_
    refine zk_tabIn hC dX5_order_4 68 (by decide +kernel) (by decide +kernel) (off := 64) (by decide +kernel) (by decide) ?_
    refine zk_ldc2 (pc' := 71) (x := -8141200382097550441) hC ⟨dX5_order_68, rfl⟩ kl_X5_86 ?_
    exact zk_lret (pc' := 72) hC hR rfl rfl rfl ⟨dX5_order_71, rfl⟩
  | 4, _ =>
    refine zk_iload_n (pc' := 1) hC rfl ⟨dX5_order_0, rfl⟩ ?_
    refine zk_bipush (pc' := 3) (x := nI 10) hC ⟨dX5_order_1, rfl⟩ zc_bipush_10 ?_
    first | refine zk_iremN (pc' := 4) hC ⟨dX5_order_3, rfl⟩ (by omega) (by omega) (by omega) ?_ | refine zk_irem (pc' := 4) hC ⟨dX5_order_3, rfl⟩ (by first | assumption | decide) ?_
    refine zk_tabIn hC dX5_order_4 72 (by decide +kernel) (by decide +kernel) (off := 68) (by decide +kernel) (by decide) ?_
    refine zk_ldc2 (pc' := 75) (x := -3204650750919412471) hC ⟨dX5_order_72, rfl⟩ kl_X5_88 ?_
    exact zk_lret (pc' := 76) hC hR rfl rfl rfl ⟨dX5_order_75, rfl⟩
  | 5, _ =>
    refine zk_iload_n (pc' := 1) hC rfl ⟨dX5_order_0, rfl⟩ ?_
    refine zk_bipush (pc' := 3) (x := nI 10) hC ⟨dX5_order_1, rfl⟩ zc_bipush_10 ?_
    first | refine zk_iremN (pc' := 4) hC ⟨dX5_order_3, rfl⟩ (by omega) (by omega) (by omega) ?_ | refine zk_irem (pc' := 4) hC ⟨dX5_order_3, rfl⟩ (by first | assumption | decide) ?_
    refine zk_tabIn hC dX5_order_4 76 (by decide +kernel) (by decide +kernel) (off := 72) (by decide +kernel) (by decide) ?_
    refine zk_ldc2 (pc' := 79) (x := -7931023849780369726) hC ⟨dX5_order_76, rfl⟩ kl_X5_90 ?_
    exact zk_lret (pc' := 80) hC hR rfl rfl rfl ⟨dX5_order_79, rfl⟩
  | 6, _ =>
    refine zk_iload_n (pc' := 1) hC rfl ⟨dX5_order_0, rfl⟩ ?_
    refine zk_bipush (pc' := 3) (x := nI 10) hC ⟨dX5_order_1, rfl⟩ zc_bipush_10 ?_
    first | refine zk_iremN (pc' := 4) hC ⟨dX5_order_3, rfl⟩ (by omega) (by omega) (by omega) ?_ | refine zk_irem (pc' := 4) hC ⟨dX5_order_3, rfl⟩ (by first | assumption | decide) ?_
    refine zk_tabIn hC dX5_order_4 80 (by decide +kernel) (by decide +kernel) (off := 76) (by decide +kernel) (by decide) ?_
    refine zk_ldc2 (pc' := 83) (x := -5176546439255363236) hC ⟨dX5_order_80, rfl⟩ kl_X5_92 ?_
    exact zk_lret (pc' := 84) hC hR rfl rfl rfl ⟨dX5_order_83, rfl⟩
  | 7, _ =>
    refine zk_iload_n (pc' := 1) hC rfl ⟨dX5_order_0, rfl⟩ ?_
    refine zk_bipush (pc' := 3) (x := nI 10) hC ⟨dX5_order_1, rfl⟩ zc_bipush_10 ?_
    first | refine zk_iremN (pc' := 4) hC ⟨dX5_order_3, rfl⟩ (by omega) (by omega) (by omega) ?_ | refine zk_irem (pc' := 4) hC ⟨dX5_order_3, rfl⟩ (by first | assumption | decide) ?_
    refine zk_tabIn hC dX5_order_4 84 (by decide +kernel) (by decide +kernel) (off := 80) (by decide +kernel) (by decide) ?_
    refine zk_ldc2 (pc' := 87) (x := -6744053556625741891) hC ⟨dX5_order_84, rfl⟩ kl_X5_94 ?_
    exact zk_lret (pc' := 88) hC hR rfl rfl rfl ⟨dX5_order_87, rfl⟩
  | 8, _ =>
    refine zk_iload_n (pc' := 1) hC rfl ⟨dX5_order_0, rfl⟩ ?_
    refine zk_bipush (pc' := 3) (x := nI 10) hC ⟨dX5_order_1, rfl⟩ zc_bipush_10 ?_
    first | refine zk_iremN (pc' := 4) hC ⟨dX5_order_3, rfl⟩ (by omega) (by omega) (by omega) ?_ | refine zk_irem (pc' := 4) hC ⟨dX5_order_3, rfl⟩ (by first | assumption | decide) ?_
    refine zk_tabIn hC dX5_order_4 88 (by decide +kernel) (by decide +kernel) (off := 84) (by decide +kernel) (by decide) ?_
    refine zk_ldc2 (pc' := 91) (x := 6503616966983130870) hC ⟨dX5_order_88, rfl⟩ kl_X5_96 ?_
    exact zk_lret (pc' := 92) hC hR rfl rfl rfl ⟨dX5_order_91, rfl⟩
  | 9, _ =>
    refine zk_iload_n (pc' := 1) hC rfl ⟨dX5_order_0, rfl⟩ ?_
    refine zk_bipush (pc' := 3) (x := nI 10) hC ⟨dX5_order_1, rfl⟩ zc_bipush_10 ?_
    first | refine zk_iremN (pc' := 4) hC ⟨dX5_order_3, rfl⟩ (by omega) (by omega) (by omega) ?_ | refine zk_irem (pc' := 4) hC ⟨dX5_order_3, rfl⟩ (by first | assumption | decide) ?_
    refine zk_tabOut hC dX5_order_4 92 (by decide +kernel) (by decide) ?_
    refine zk_ldc2 (pc' := 95) (x := 991893350865389610) hC ⟨dX5_order_92, rfl⟩ kl_X5_98 ?_
    exact zk_lret (pc' := 96) hC hR rfl rfl rfl ⟨dX5_order_95, rfl⟩
  | 10, _ =>
    refine zk_iload_n (pc' := 1) hC rfl ⟨dX5_order_0, rfl⟩ ?_
    refine zk_bipush (pc' := 3) (x := nI 10) hC ⟨dX5_order_1, rfl⟩ zc_bipush_10 ?_
    first | refine zk_iremN (pc' := 4) hC ⟨dX5_order_3, rfl⟩ (by omega) (by omega) (by omega) ?_ | refine zk_irem (pc' := 4) hC ⟨dX5_order_3, rfl⟩ (by first | assumption | decide) ?_
    refine zk_tabIn hC dX5_order_4 56 (by decide +kernel) (by decide +kernel) (off := 52) (by decide +kernel) (by decide) ?_
    refine zk_ldc2 (pc' := 59) (x := -81985529216486896) hC ⟨dX5_order_56, rfl⟩ kl_X5_80 ?_
    exact zk_lret (pc' := 60) hC hR rfl rfl rfl ⟨dX5_order_59, rfl⟩
  | 11, _ =>
    refine zk_iload_n (pc' := 1) hC rfl ⟨dX5_order_0, rfl⟩ ?_
    refine zk_bipush (pc' := 3) (x := nI 10) hC ⟨dX5_order_1, rfl⟩ zc_bipush_10 ?_
    first | refine zk_iremN (pc' := 4) hC ⟨dX5_order_3, rfl⟩ (by omega) (by omega) (by omega) ?_ | refine zk_irem (pc' := 4) hC ⟨dX5_order_3, rfl⟩ (by first | assumption | decide) ?_
    refine zk_tabIn hC dX5_order_4 60 (by decide +kernel) (by decide +kernel) (off := 56) (by decide +kernel) (by decide) ?_
    refine zk_ldc2 (pc' := 63) (x := 3853709921291437230) hC ⟨dX5_order_60, rfl⟩ kl_X5_82 ?_
    exact zk_lret (pc' := 64) hC hR rfl rfl rfl ⟨dX5_order_63, rfl⟩
  | _ + 12, h => exact absurd h (by omega)

set_option maxHeartbeats 1000000 in
set_option maxRecDepth 100000 in
theorem c_X5_turned (X : zk_X) (I : zk_I) (J : zk_J) (x : Int64) {k : Nat} (hk : k ≤ 64) : zk_M 1 X yX5_turned cX5_turned 3 ((some .long)) (0, 0) [.long x, .int (nI k)] I J (some (.long (hz_R x k))) I J := by
  refine zk_M.intro (by decide) (lv := [some (.long x), none, some (.int (nI k))]) rfl rfl (fun E hC hR => ?_)
  refine zk_lload_n (pc' := 1) hC rfl ⟨dX5_turned_0, rfl⟩ ?_
  refine zk_iload_n (pc' := 2) hC rfl ⟨dX5_turned_1, rfl⟩ ?_
  refine zk_lushr (pc' := 3) hC ⟨dX5_turned_2, rfl⟩ ?_
  refine zk_lload_n (pc' := 4) hC rfl ⟨dX5_turned_3, rfl⟩ ?_
  refine zk_bipush (pc' := 6) (x := nI 64) hC ⟨dX5_turned_4, rfl⟩ zc_bipush_64 ?_
  refine zk_iload_n (pc' := 7) hC rfl ⟨dX5_turned_6, rfl⟩ ?_
  first | refine zk_isubN (pc' := 8) hC ⟨dX5_turned_7, rfl⟩ (by omega) ?_ | refine zk_isub (pc' := 8) hC ⟨dX5_turned_7, rfl⟩ ?_
  refine zk_lshl (pc' := 9) hC ⟨dX5_turned_8, rfl⟩ ?_
  refine zk_lor (pc' := 10) hC ⟨dX5_turned_9, rfl⟩ ?_
  exact zk_lret (pc' := 11) hC hR rfl rfl rfl ⟨dX5_turned_10, rfl⟩

set_option maxHeartbeats 1000000 in
set_option maxRecDepth 100000 in
theorem c_X5_mix (X : zk_X) (I : zk_I) (J : zk_J) {a b c d : Nat} (x y : Int64) (ha : a < 16) (hb : b < 16) (hc : c < 16) (hd : d < 16) : zk_M 1 X yX5_mix cX5_mix 9 none (1, 22) [.ref (zk_ad X 0), .int (nI a), .int (nI b), .int (nI c), .int (nI d), .long x, .long y] I J none I (zk_u J 6 (hz_mix (J 6) a b c d x y)) := by
  refine zk_M.intro (by decide) (lv := [some (.ref (zk_ad X 0)), some (.int (nI a)), some (.int (nI b)), some (.int (nI c)), some (.int (nI d)), some (.long x), none, some (.long y), none]) rfl rfl (fun E hC hR => ?_)
  refine zk_eqJ (J' := zk_u J 6 (J 6)) (zk_u_self J 6).symm ?_
  refine zk_aload_n (pc' := 1) hC rfl ⟨dX5_mix_0, rfl⟩ ?_
  refine zk_getr (pc' := 4) hC fl_X5_26 (by first | decide | assumption | omega) (by first | rfl | assumption) rfl ⟨dX5_mix_1, rfl⟩ ?_
  refine zk_iload_n (pc' := 5) hC rfl ⟨dX5_mix_4, rfl⟩ ?_
  refine zk_dup2 (pc' := 6) hC ⟨dX5_mix_5, rfl⟩ rfl rfl ?_
  first | refine zk_laldU (pc' := 7) hC (by first | decide | assumption | omega) (by first | rfl | assumption) (by omega) (by first | decide | omega) ⟨dX5_mix_6, rfl⟩ ?_ | refine zk_laldN (pc' := 7) hC (by first | decide | assumption | omega) (by first | rfl | assumption) (by omega) (by first | decide | omega) ⟨dX5_mix_6, rfl⟩ ?_ | refine zk_t1N (pc' := 7) hC (by omega) ⟨dX5_mix_6, rfl⟩ ?_
  refine zk_aload_n (pc' := 8) hC rfl ⟨dX5_mix_7, rfl⟩ ?_
  refine zk_getr (pc' := 11) hC fl_X5_26 (by first | decide | assumption | omega) (by first | rfl | assumption) rfl ⟨dX5_mix_8, rfl⟩ ?_
  refine zk_iload_n (pc' := 12) hC rfl ⟨dX5_mix_11, rfl⟩ ?_
  first | refine zk_laldU (pc' := 13) hC (by first | decide | assumption | omega) (by first | rfl | assumption) (by omega) (by first | decide | omega) ⟨dX5_mix_12, rfl⟩ ?_ | refine zk_laldN (pc' := 13) hC (by first | decide | assumption | omega) (by first | rfl | assumption) (by omega) (by first | decide | omega) ⟨dX5_mix_12, rfl⟩ ?_ | refine zk_t1N (pc' := 13) hC (by omega) ⟨dX5_mix_12, rfl⟩ ?_
  refine zk_lload (pc' := 15) hC rfl ⟨dX5_mix_13, rfl⟩ ?_
  refine zk_ladd (pc' := 16) hC ⟨dX5_mix_15, rfl⟩ ?_
  refine zk_ladd (pc' := 17) hC ⟨dX5_mix_16, rfl⟩ ?_
  first | refine zk_lastU (pc' := 18) hC (by first | decide | assumption | omega) (by first | rfl | assumption) (by omega) (by first | decide | omega) ⟨dX5_mix_17, rfl⟩ ?_ | refine zk_lastN (pc' := 18) hC (by first | decide | assumption | omega) (by first | rfl | assumption) (by omega) (by first | decide | omega) ⟨dX5_mix_17, rfl⟩ ?_
  refine zk_eqJ (J' := zk_u J 6 (hz_add (J 6) a b x)) rfl ?_
  refine zk_aload_n (pc' := 19) hC rfl ⟨dX5_mix_18, rfl⟩ ?_
  refine zk_getr (pc' := 22) hC fl_X5_26 (by first | decide | assumption | omega) (by first | rfl | assumption) rfl ⟨dX5_mix_19, rfl⟩ ?_
  refine zk_iload (pc' := 24) hC rfl ⟨dX5_mix_22, rfl⟩ ?_
  refine zk_aload_n (pc' := 25) hC rfl ⟨dX5_mix_24, rfl⟩ ?_
  refine zk_getr (pc' := 28) hC fl_X5_26 (by first | decide | assumption | omega) (by first | rfl | assumption) rfl ⟨dX5_mix_25, rfl⟩ ?_
  refine zk_iload (pc' := 30) hC rfl ⟨dX5_mix_28, rfl⟩ ?_
  first | refine zk_laldU (pc' := 31) hC (by first | decide | assumption | omega) (by first | rfl | assumption) (by omega) (by first | decide | omega) ⟨dX5_mix_30, rfl⟩ ?_ | refine zk_laldN (pc' := 31) hC (by first | decide | assumption | omega) (by first | rfl | assumption) (by omega) (by first | decide | omega) ⟨dX5_mix_30, rfl⟩ ?_ | refine zk_t1N (pc' := 31) hC (by omega) ⟨dX5_mix_30, rfl⟩ ?_
  refine zk_aload_n (pc' := 32) hC rfl ⟨dX5_mix_31, rfl⟩ ?_
  refine zk_getr (pc' := 35) hC fl_X5_26 (by first | decide | assumption | omega) (by first | rfl | assumption) rfl ⟨dX5_mix_32, rfl⟩ ?_
  refine zk_iload_n (pc' := 36) hC rfl ⟨dX5_mix_35, rfl⟩ ?_
  first | refine zk_laldU (pc' := 37) hC (by first | decide | assumption | omega) (by first | rfl | assumption) (by omega) (by first | decide | omega) ⟨dX5_mix_36, rfl⟩ ?_ | refine zk_laldN (pc' := 37) hC (by first | decide | assumption | omega) (by first | rfl | assumption) (by omega) (by first | decide | omega) ⟨dX5_mix_36, rfl⟩ ?_ | refine zk_t1N (pc' := 37) hC (by omega) ⟨dX5_mix_36, rfl⟩ ?_
  refine zk_lxor (pc' := 38) hC ⟨dX5_mix_37, rfl⟩ ?_
  refine zk_bipush (pc' := 40) (x := nI 32) hC ⟨dX5_mix_38, rfl⟩ zc_bipush_32 ?_
  refine zk_callS1 (pc' := 43) hC ml_X5_100 ms_X5_turned (c_X5_turned X I _ _ (k := 32) (by decide)) (by decide) rfl rfl (Nat.le_of_ble_eq_true rfl) ⟨dX5_mix_40, rfl⟩ ?_
  first | refine zk_lastU (pc' := 44) hC (by first | decide | assumption | omega) (by first | rfl | assumption) (by omega) (by first | decide | omega) ⟨dX5_mix_43, rfl⟩ ?_ | refine zk_lastN (pc' := 44) hC (by first | decide | assumption | omega) (by first | rfl | assumption) (by omega) (by first | decide | omega) ⟨dX5_mix_43, rfl⟩ ?_
  refine zk_eqJ (J' := zk_u J 6 (hz_rot (hz_add (J 6) a b x) d a 32)) rfl ?_
  refine zk_aload_n (pc' := 45) hC rfl ⟨dX5_mix_44, rfl⟩ ?_
  refine zk_getr (pc' := 48) hC fl_X5_26 (by first | decide | assumption | omega) (by first | rfl | assumption) rfl ⟨dX5_mix_45, rfl⟩ ?_
  refine zk_iload_n (pc' := 49) hC rfl ⟨dX5_mix_48, rfl⟩ ?_
  refine zk_dup2 (pc' := 50) hC ⟨dX5_mix_49, rfl⟩ rfl rfl ?_
  first | refine zk_laldU (pc' := 51) hC (by first | decide | assumption | omega) (by first | rfl | assumption) (by omega) (by first | decide | omega) ⟨dX5_mix_50, rfl⟩ ?_ | refine zk_laldN (pc' := 51) hC (by first | decide | assumption | omega) (by first | rfl | assumption) (by omega) (by first | decide | omega) ⟨dX5_mix_50, rfl⟩ ?_ | refine zk_t1N (pc' := 51) hC (by omega) ⟨dX5_mix_50, rfl⟩ ?_
  refine zk_aload_n (pc' := 52) hC rfl ⟨dX5_mix_51, rfl⟩ ?_
  refine zk_getr (pc' := 55) hC fl_X5_26 (by first | decide | assumption | omega) (by first | rfl | assumption) rfl ⟨dX5_mix_52, rfl⟩ ?_
  refine zk_iload (pc' := 57) hC rfl ⟨dX5_mix_55, rfl⟩ ?_
  first | refine zk_laldU (pc' := 58) hC (by first | decide | assumption | omega) (by first | rfl | assumption) (by omega) (by first | decide | omega) ⟨dX5_mix_57, rfl⟩ ?_ | refine zk_laldN (pc' := 58) hC (by first | decide | assumption | omega) (by first | rfl | assumption) (by omega) (by first | decide | omega) ⟨dX5_mix_57, rfl⟩ ?_ | refine zk_t1N (pc' := 58) hC (by omega) ⟨dX5_mix_57, rfl⟩ ?_
  refine zk_ladd (pc' := 59) hC ⟨dX5_mix_58, rfl⟩ ?_
  first | refine zk_lastU (pc' := 60) hC (by first | decide | assumption | omega) (by first | rfl | assumption) (by omega) (by first | decide | omega) ⟨dX5_mix_59, rfl⟩ ?_ | refine zk_lastN (pc' := 60) hC (by first | decide | assumption | omega) (by first | rfl | assumption) (by omega) (by first | decide | omega) ⟨dX5_mix_59, rfl⟩ ?_
  refine zk_eqJ (J' := zk_u J 6 (hz_inc (hz_rot (hz_add (J 6) a b x) d a 32) c d)) rfl ?_
  refine zk_aload_n (pc' := 61) hC rfl ⟨dX5_mix_60, rfl⟩ ?_
  refine zk_getr (pc' := 64) hC fl_X5_26 (by first | decide | assumption | omega) (by first | rfl | assumption) rfl ⟨dX5_mix_61, rfl⟩ ?_
  refine zk_iload_n (pc' := 65) hC rfl ⟨dX5_mix_64, rfl⟩ ?_
  refine zk_aload_n (pc' := 66) hC rfl ⟨dX5_mix_65, rfl⟩ ?_
  refine zk_getr (pc' := 69) hC fl_X5_26 (by first | decide | assumption | omega) (by first | rfl | assumption) rfl ⟨dX5_mix_66, rfl⟩ ?_
  refine zk_iload_n (pc' := 70) hC rfl ⟨dX5_mix_69, rfl⟩ ?_
  first | refine zk_laldU (pc' := 71) hC (by first | decide | assumption | omega) (by first | rfl | assumption) (by omega) (by first | decide | omega) ⟨dX5_mix_70, rfl⟩ ?_ | refine zk_laldN (pc' := 71) hC (by first | decide | assumption | omega) (by first | rfl | assumption) (by omega) (by first | decide | omega) ⟨dX5_mix_70, rfl⟩ ?_ | refine zk_t1N (pc' := 71) hC (by omega) ⟨dX5_mix_70, rfl⟩ ?_
  refine zk_aload_n (pc' := 72) hC rfl ⟨dX5_mix_71, rfl⟩ ?_
  refine zk_getr (pc' := 75) hC fl_X5_26 (by first | decide | assumption | omega) (by first | rfl | assumption) rfl ⟨dX5_mix_72, rfl⟩ ?_
  refine zk_iload_n (pc' := 76) hC rfl ⟨dX5_mix_75, rfl⟩ ?_
  first | refine zk_laldU (pc' := 77) hC (by first | decide | assumption | omega) (by first | rfl | assumption) (by omega) (by first | decide | omega) ⟨dX5_mix_76, rfl⟩ ?_ | refine zk_laldN (pc' := 77) hC (by first | decide | assumption | omega) (by first | rfl | assumption) (by omega) (by first | decide | omega) ⟨dX5_mix_76, rfl⟩ ?_ | refine zk_t1N (pc' := 77) hC (by omega) ⟨dX5_mix_76, rfl⟩ ?_
  refine zk_lxor (pc' := 78) hC ⟨dX5_mix_77, rfl⟩ ?_
  refine zk_bipush (pc' := 80) (x := nI 24) hC ⟨dX5_mix_78, rfl⟩ zc_bipush_24 ?_
  refine zk_callS1 (pc' := 83) hC ml_X5_100 ms_X5_turned (c_X5_turned X I _ _ (k := 24) (by decide)) (by decide) rfl rfl (Nat.le_of_ble_eq_true rfl) ⟨dX5_mix_80, rfl⟩ ?_
  first | refine zk_lastU (pc' := 84) hC (by first | decide | assumption | omega) (by first | rfl | assumption) (by omega) (by first | decide | omega) ⟨dX5_mix_83, rfl⟩ ?_ | refine zk_lastN (pc' := 84) hC (by first | decide | assumption | omega) (by first | rfl | assumption) (by omega) (by first | decide | omega) ⟨dX5_mix_83, rfl⟩ ?_
  refine zk_eqJ (J' := zk_u J 6 (hz_rot (hz_inc (hz_rot (hz_add (J 6) a b x) d a 32) c d) b c 24)) rfl ?_
  refine zk_aload_n (pc' := 85) hC rfl ⟨dX5_mix_84, rfl⟩ ?_
  refine zk_getr (pc' := 88) hC fl_X5_26 (by first | decide | assumption | omega) (by first | rfl | assumption) rfl ⟨dX5_mix_85, rfl⟩ ?_
  refine zk_iload_n (pc' := 89) hC rfl ⟨dX5_mix_88, rfl⟩ ?_
  refine zk_dup2 (pc' := 90) hC ⟨dX5_mix_89, rfl⟩ rfl rfl ?_
  first | refine zk_laldU (pc' := 91) hC (by first | decide | assumption | omega) (by first | rfl | assumption) (by omega) (by first | decide | omega) ⟨dX5_mix_90, rfl⟩ ?_ | refine zk_laldN (pc' := 91) hC (by first | decide | assumption | omega) (by first | rfl | assumption) (by omega) (by first | decide | omega) ⟨dX5_mix_90, rfl⟩ ?_ | refine zk_t1N (pc' := 91) hC (by omega) ⟨dX5_mix_90, rfl⟩ ?_
  refine zk_aload_n (pc' := 92) hC rfl ⟨dX5_mix_91, rfl⟩ ?_
  refine zk_getr (pc' := 95) hC fl_X5_26 (by first | decide | assumption | omega) (by first | rfl | assumption) rfl ⟨dX5_mix_92, rfl⟩ ?_
  refine zk_iload_n (pc' := 96) hC rfl ⟨dX5_mix_95, rfl⟩ ?_
  first | refine zk_laldU (pc' := 97) hC (by first | decide | assumption | omega) (by first | rfl | assumption) (by omega) (by first | decide | omega) ⟨dX5_mix_96, rfl⟩ ?_ | refine zk_laldN (pc' := 97) hC (by first | decide | assumption | omega) (by first | rfl | assumption) (by omega) (by first | decide | omega) ⟨dX5_mix_96, rfl⟩ ?_ | refine zk_t1N (pc' := 97) hC (by omega) ⟨dX5_mix_96, rfl⟩ ?_
  refine zk_lload (pc' := 99) hC rfl ⟨dX5_mix_97, rfl⟩ ?_
  refine zk_ladd (pc' := 100) hC ⟨dX5_mix_99, rfl⟩ ?_
  refine zk_ladd (pc' := 101) hC ⟨dX5_mix_100, rfl⟩ ?_
  first | refine zk_lastU (pc' := 102) hC (by first | decide | assumption | omega) (by first | rfl | assumption) (by omega) (by first | decide | omega) ⟨dX5_mix_101, rfl⟩ ?_ | refine zk_lastN (pc' := 102) hC (by first | decide | assumption | omega) (by first | rfl | assumption) (by omega) (by first | decide | omega) ⟨dX5_mix_101, rfl⟩ ?_
  refine zk_eqJ (J' := zk_u J 6 (hz_add (hz_rot (hz_inc (hz_rot (hz_add (J 6) a b x) d a 32) c d) b c 24) a b y)) rfl ?_
  refine zk_aload_n (pc' := 103) hC rfl ⟨dX5_mix_102, rfl⟩ ?_
  refine zk_getr (pc' := 106) hC fl_X5_26 (by first | decide | assumption | omega) (by first | rfl | assumption) rfl ⟨dX5_mix_103, rfl⟩ ?_
  refine zk_iload (pc' := 108) hC rfl ⟨dX5_mix_106, rfl⟩ ?_
  refine zk_aload_n (pc' := 109) hC rfl ⟨dX5_mix_108, rfl⟩ ?_
  refine zk_getr (pc' := 112) hC fl_X5_26 (by first | decide | assumption | omega) (by first | rfl | assumption) rfl ⟨dX5_mix_109, rfl⟩ ?_
  refine zk_iload (pc' := 114) hC rfl ⟨dX5_mix_112, rfl⟩ ?_
  first | refine zk_laldU (pc' := 115) hC (by first | decide | assumption | omega) (by first | rfl | assumption) (by omega) (by first | decide | omega) ⟨dX5_mix_114, rfl⟩ ?_ | refine zk_laldN (pc' := 115) hC (by first | decide | assumption | omega) (by first | rfl | assumption) (by omega) (by first | decide | omega) ⟨dX5_mix_114, rfl⟩ ?_ | refine zk_t1N (pc' := 115) hC (by omega) ⟨dX5_mix_114, rfl⟩ ?_
  refine zk_aload_n (pc' := 116) hC rfl ⟨dX5_mix_115, rfl⟩ ?_
  refine zk_getr (pc' := 119) hC fl_X5_26 (by first | decide | assumption | omega) (by first | rfl | assumption) rfl ⟨dX5_mix_116, rfl⟩ ?_
  refine zk_iload_n (pc' := 120) hC rfl ⟨dX5_mix_119, rfl⟩ ?_
  first | refine zk_laldU (pc' := 121) hC (by first | decide | assumption | omega) (by first | rfl | assumption) (by omega) (by first | decide | omega) ⟨dX5_mix_120, rfl⟩ ?_ | refine zk_laldN (pc' := 121) hC (by first | decide | assumption | omega) (by first | rfl | assumption) (by omega) (by first | decide | omega) ⟨dX5_mix_120, rfl⟩ ?_ | refine zk_t1N (pc' := 121) hC (by omega) ⟨dX5_mix_120, rfl⟩ ?_
  refine zk_lxor (pc' := 122) hC ⟨dX5_mix_121, rfl⟩ ?_
  refine zk_bipush (pc' := 124) (x := nI 16) hC ⟨dX5_mix_122, rfl⟩ zc_bipush_16 ?_
  refine zk_callS1 (pc' := 127) hC ml_X5_100 ms_X5_turned (c_X5_turned X I _ _ (k := 16) (by decide)) (by decide) rfl rfl (Nat.le_of_ble_eq_true rfl) ⟨dX5_mix_124, rfl⟩ ?_
  first | refine zk_lastU (pc' := 128) hC (by first | decide | assumption | omega) (by first | rfl | assumption) (by omega) (by first | decide | omega) ⟨dX5_mix_127, rfl⟩ ?_ | refine zk_lastN (pc' := 128) hC (by first | decide | assumption | omega) (by first | rfl | assumption) (by omega) (by first | decide | omega) ⟨dX5_mix_127, rfl⟩ ?_
  refine zk_eqJ (J' := zk_u J 6 (hz_rot (hz_add (hz_rot (hz_inc (hz_rot (hz_add (J 6) a b x) d a 32) c d) b c 24) a b y) d a 16)) rfl ?_
  refine zk_aload_n (pc' := 129) hC rfl ⟨dX5_mix_128, rfl⟩ ?_
  refine zk_getr (pc' := 132) hC fl_X5_26 (by first | decide | assumption | omega) (by first | rfl | assumption) rfl ⟨dX5_mix_129, rfl⟩ ?_
  refine zk_iload_n (pc' := 133) hC rfl ⟨dX5_mix_132, rfl⟩ ?_
  refine zk_dup2 (pc' := 134) hC ⟨dX5_mix_133, rfl⟩ rfl rfl ?_
  first | refine zk_laldU (pc' := 135) hC (by first | decide | assumption | omega) (by first | rfl | assumption) (by omega) (by first | decide | omega) ⟨dX5_mix_134, rfl⟩ ?_ | refine zk_laldN (pc' := 135) hC (by first | decide | assumption | omega) (by first | rfl | assumption) (by omega) (by first | decide | omega) ⟨dX5_mix_134, rfl⟩ ?_ | refine zk_t1N (pc' := 135) hC (by omega) ⟨dX5_mix_134, rfl⟩ ?_
  refine zk_aload_n (pc' := 136) hC rfl ⟨dX5_mix_135, rfl⟩ ?_
  refine zk_getr (pc' := 139) hC fl_X5_26 (by first | decide | assumption | omega) (by first | rfl | assumption) rfl ⟨dX5_mix_136, rfl⟩ ?_
  refine zk_iload (pc' := 141) hC rfl ⟨dX5_mix_139, rfl⟩ ?_
  first | refine zk_laldU (pc' := 142) hC (by first | decide | assumption | omega) (by first | rfl | assumption) (by omega) (by first | decide | omega) ⟨dX5_mix_141, rfl⟩ ?_ | refine zk_laldN (pc' := 142) hC (by first | decide | assumption | omega) (by first | rfl | assumption) (by omega) (by first | decide | omega) ⟨dX5_mix_141, rfl⟩ ?_ | refine zk_t1N (pc' := 142) hC (by omega) ⟨dX5_mix_141, rfl⟩ ?_
  refine zk_ladd (pc' := 143) hC ⟨dX5_mix_142, rfl⟩ ?_
  first | refine zk_lastU (pc' := 144) hC (by first | decide | assumption | omega) (by first | rfl | assumption) (by omega) (by first | decide | omega) ⟨dX5_mix_143, rfl⟩ ?_ | refine zk_lastN (pc' := 144) hC (by first | decide | assumption | omega) (by first | rfl | assumption) (by omega) (by first | decide | omega) ⟨dX5_mix_143, rfl⟩ ?_
  refine zk_eqJ (J' := zk_u J 6 (hz_inc (hz_rot (hz_add (hz_rot (hz_inc (hz_rot (hz_add (J 6) a b x) d a 32) c d) b c 24) a b y) d a 16) c d)) rfl ?_
  refine zk_aload_n (pc' := 145) hC rfl ⟨dX5_mix_144, rfl⟩ ?_
  refine zk_getr (pc' := 148) hC fl_X5_26 (by first | decide | assumption | omega) (by first | rfl | assumption) rfl ⟨dX5_mix_145, rfl⟩ ?_
  refine zk_iload_n (pc' := 149) hC rfl ⟨dX5_mix_148, rfl⟩ ?_
  refine zk_aload_n (pc' := 150) hC rfl ⟨dX5_mix_149, rfl⟩ ?_
  refine zk_getr (pc' := 153) hC fl_X5_26 (by first | decide | assumption | omega) (by first | rfl | assumption) rfl ⟨dX5_mix_150, rfl⟩ ?_
  refine zk_iload_n (pc' := 154) hC rfl ⟨dX5_mix_153, rfl⟩ ?_
  first | refine zk_laldU (pc' := 155) hC (by first | decide | assumption | omega) (by first | rfl | assumption) (by omega) (by first | decide | omega) ⟨dX5_mix_154, rfl⟩ ?_ | refine zk_laldN (pc' := 155) hC (by first | decide | assumption | omega) (by first | rfl | assumption) (by omega) (by first | decide | omega) ⟨dX5_mix_154, rfl⟩ ?_ | refine zk_t1N (pc' := 155) hC (by omega) ⟨dX5_mix_154, rfl⟩ ?_
  refine zk_aload_n (pc' := 156) hC rfl ⟨dX5_mix_155, rfl⟩ ?_
  refine zk_getr (pc' := 159) hC fl_X5_26 (by first | decide | assumption | omega) (by first | rfl | assumption) rfl ⟨dX5_mix_156, rfl⟩ ?_
  refine zk_iload_n (pc' := 160) hC rfl ⟨dX5_mix_159, rfl⟩ ?_
  first | refine zk_laldU (pc' := 161) hC (by first | decide | assumption | omega) (by first | rfl | assumption) (by omega) (by first | decide | omega) ⟨dX5_mix_160, rfl⟩ ?_ | refine zk_laldN (pc' := 161) hC (by first | decide | assumption | omega) (by first | rfl | assumption) (by omega) (by first | decide | omega) ⟨dX5_mix_160, rfl⟩ ?_ | refine zk_t1N (pc' := 161) hC (by omega) ⟨dX5_mix_160, rfl⟩ ?_
  refine zk_lxor (pc' := 162) hC ⟨dX5_mix_161, rfl⟩ ?_
  refine zk_bipush (pc' := 164) (x := nI 63) hC ⟨dX5_mix_162, rfl⟩ zc_bipush_63 ?_
  refine zk_callS1 (pc' := 167) hC ml_X5_100 ms_X5_turned (c_X5_turned X I _ _ (k := 63) (by decide)) (by decide) rfl rfl (Nat.le_of_ble_eq_true rfl) ⟨dX5_mix_164, rfl⟩ ?_
  first | refine zk_lastU (pc' := 168) hC (by first | decide | assumption | omega) (by first | rfl | assumption) (by omega) (by first | decide | omega) ⟨dX5_mix_167, rfl⟩ ?_ | refine zk_lastN (pc' := 168) hC (by first | decide | assumption | omega) (by first | rfl | assumption) (by omega) (by first | decide | omega) ⟨dX5_mix_167, rfl⟩ ?_
  refine zk_eqJ (J' := zk_u J 6 (hz_rot (hz_inc (hz_rot (hz_add (hz_rot (hz_inc (hz_rot (hz_add (J 6) a b x) d a 32) c d) b c 24) a b y) d a 16) c d) b c 63)) rfl ?_
  exact zk_vret (pc' := 169) hC hR rfl rfl rfl ⟨dX5_mix_168, rfl⟩

set_option maxHeartbeats 1000000 in
set_option maxRecDepth 100000 in
theorem c_X5_picked (X : zk_X) (I : zk_I) (J : zk_J) (x : Int64) {k q : Nat} (hq : ((x >>> ((nI (4 * k)).toInt64 &&& 63)) &&& 15).toInt32 = nI q) (hq16 : q < 16) : zk_M 1 X yX5_picked cX5_picked 4 ((some .long)) (0, 0) [.ref (zk_ad X 0), .long x, .int (nI k)] I J (some (.long (J 7 q))) I J := by
  refine zk_M.intro (by decide) (lv := [some (.ref (zk_ad X 0)), some (.long x), none, some (.int (nI k))]) rfl rfl (fun E hC hR => ?_)
  refine zk_aload_n (pc' := 1) hC rfl ⟨dX5_picked_0, rfl⟩ ?_
  refine zk_getr (pc' := 4) hC fl_X5_29 (by first | decide | assumption | omega) (by first | rfl | assumption) rfl ⟨dX5_picked_1, rfl⟩ ?_
  refine zk_lload_n (pc' := 5) hC rfl ⟨dX5_picked_4, rfl⟩ ?_
  refine zk_iconst (pc' := 6) (x := nI 4) hC ⟨dX5_picked_5, rfl⟩ zc_iconst_4 ?_
  refine zk_iload_n (pc' := 7) hC rfl ⟨dX5_picked_6, rfl⟩ ?_
  first | refine zk_imulN (pc' := 8) hC ⟨dX5_picked_7, rfl⟩ ?_ | refine zk_imul (pc' := 8) hC ⟨dX5_picked_7, rfl⟩ ?_
  refine zk_lshr (pc' := 9) hC ⟨dX5_picked_8, rfl⟩ ?_
  refine zk_ldc2 (pc' := 12) (x := 15) hC ⟨dX5_picked_9, rfl⟩ kl_X5_104 ?_
  refine zk_land (pc' := 13) hC ⟨dX5_picked_12, rfl⟩ ?_
  refine zk_l2i (pc' := 14) hC ⟨dX5_picked_13, rfl⟩ ?_
  rw [hq]
  first | refine zk_laldU (pc' := 15) hC (by first | decide | assumption | omega) (by first | rfl | assumption) (by omega) (by first | decide | omega) ⟨dX5_picked_14, rfl⟩ ?_ | refine zk_laldN (pc' := 15) hC (by first | decide | assumption | omega) (by first | rfl | assumption) (by omega) (by first | decide | omega) ⟨dX5_picked_14, rfl⟩ ?_ | refine zk_t1N (pc' := 15) hC (by omega) ⟨dX5_picked_14, rfl⟩ ?_
  exact zk_lret (pc' := 16) hC hR rfl rfl rfl ⟨dX5_picked_15, rfl⟩

def md_b (key msg : Nat → Int32) (ks sz i : Nat) : Int32 := if ks = 0 then (if i < sz then msg i else nI 0) else if i < 128 then (if i < ks then key i else nI 0) else (if i - 128 < sz then msg (i - 128) else nI 0)
theorem zk_m128 {a : Nat} (h : 128 ≤ a) : nI a + Int32.ofInt (-128) = nI (a - 128) := by
  rw [← pk_sub h, Int32.sub_eq_add_neg]
  congr 1

set_option maxHeartbeats 1000000 in
set_option maxRecDepth 100000 in
theorem c_X5_byteAt (X : zk_X) (I : zk_I) (J : zk_J) {g0 : Nat → Int32} {th ks sz bg kd ln ps tg sc dn : Nat} (hI : I 0 = md_g g0 th ks sz bg kd ln ps tg sc dn) {i : Nat} (hks : ks ≤ 64) (hsz : sz ≤ 1400) (hi : i < 2000) : zk_M 1 X yX5_byteAt cX5_byteAt 3 ((some .int)) (0, 0) [.ref (zk_ad X 0), .int (nI i)] I J (some (.int (md_b (I 3) (I 4) ks sz i))) I J := by
  refine zk_M.intro (by decide) (lv := [some (.ref (zk_ad X 0)), some (.int (nI i)), none]) rfl rfl (fun E hC hR => ?_)
  refine zk_iload_n (pc' := 1) hC rfl ⟨dX5_byteAt_0, rfl⟩ ?_
  refine zk_is2 (pc' := 2) hC ⟨dX5_byteAt_1, rfl⟩ rfl ?_
  refine zk_aload_n (pc' := 3) hC rfl ⟨dX5_byteAt_2, rfl⟩ ?_
  first | refine zk_getiN (pc' := 6) hC fl_X5_106 (by first | decide | assumption | omega) (by first | rfl | assumption) rfl (by first | assumption | (rw [zk_u_s]; rfl) | (rw [hI]; rfl)) ⟨dX5_byteAt_3, rfl⟩ ?_ | refine zk_geti (pc' := 6) hC fl_X5_106 (by first | decide | assumption | omega) (by first | rfl | assumption) rfl ⟨dX5_byteAt_3, rfl⟩ ?_
  refine zk_if_leN (pc' := 9) hC ⟨dX5_byteAt_6, rfl⟩ 38 (by decide) (by omega) (fun q => ?_) (fun q => ?_)
  · refine zk_iload_n (pc' := 39) hC rfl ⟨dX5_byteAt_38, rfl⟩ ?_
    refine zk_aload_n (pc' := 40) hC rfl ⟨dX5_byteAt_39, rfl⟩ ?_
    first | refine zk_getiN (pc' := 43) hC fl_X5_109 (by first | decide | assumption | omega) (by first | rfl | assumption) rfl (by first | assumption | (rw [zk_u_s]; rfl) | (rw [hI]; rfl)) ⟨dX5_byteAt_40, rfl⟩ ?_ | refine zk_geti (pc' := 43) hC fl_X5_109 (by first | decide | assumption | omega) (by first | rfl | assumption) rfl ⟨dX5_byteAt_40, rfl⟩ ?_
    refine zk_icmp_geN (pc' := 46) hC ⟨dX5_byteAt_43, rfl⟩ 55 (by decide) (by omega) (by omega) (fun z => ?_) (fun z => ?_)
    · rw [md_b, if_pos q, if_neg (by omega)] at hR
      refine zk_iconst (pc' := 56) (x := nI 0) hC ⟨dX5_byteAt_55, rfl⟩ zc_iconst_0 ?_
      exact zk_iret (pc' := 57) hC hR rfl rfl rfl ⟨dX5_byteAt_56, rfl⟩
    · rw [md_b, if_pos q, if_pos (by omega)] at hR
      refine zk_aload_n (pc' := 47) hC rfl ⟨dX5_byteAt_46, rfl⟩ ?_
      refine zk_getr (pc' := 50) hC fl_X5_19 (by first | decide | assumption | omega) (by first | rfl | assumption) rfl ⟨dX5_byteAt_47, rfl⟩ ?_
      refine zk_iload_n (pc' := 51) hC rfl ⟨dX5_byteAt_50, rfl⟩ ?_
      first | refine zk_ialdU (pc' := 52) hC (by first | decide | assumption | omega) (by first | rfl | assumption) (by omega) (by first | decide | omega) ⟨dX5_byteAt_51, rfl⟩ ?_ | refine zk_ialdN (pc' := 52) hC (by first | decide | assumption | omega) (by first | rfl | assumption) (by omega) (by first | decide | omega) ⟨dX5_byteAt_51, rfl⟩ ?_ | refine zk_t0N (pc' := 52) hC (by omega) ⟨dX5_byteAt_51, rfl⟩ ?_ | refine zk_t2N (pc' := 52) hC (by omega) ⟨dX5_byteAt_51, rfl⟩ ?_
      refine zk_goto (pc' := 55) hC ⟨dX5_byteAt_52, rfl⟩ 56 (by decide) ?_
      exact zk_iret (pc' := 57) hC hR rfl rfl rfl ⟨dX5_byteAt_56, rfl⟩
  · refine zk_iload_n (pc' := 10) hC rfl ⟨dX5_byteAt_9, rfl⟩ ?_
    refine zk_sipush (pc' := 13) (x := nI 128) hC ⟨dX5_byteAt_10, rfl⟩ zc_sipush_128 ?_
    refine zk_icmp_geN (pc' := 16) hC ⟨dX5_byteAt_13, rfl⟩ 35 (by decide) (by omega) (by omega) (fun q2 => ?_) (fun q2 => ?_)
    · refine zk_iincG (pc' := 38) hC ⟨dX5_byteAt_35, rfl⟩ rfl ?_
      rw [zk_m128 q2]
      refine zk_iload_n (pc' := 39) hC rfl ⟨dX5_byteAt_38, rfl⟩ ?_
      refine zk_aload_n (pc' := 40) hC rfl ⟨dX5_byteAt_39, rfl⟩ ?_
      first | refine zk_getiN (pc' := 43) hC fl_X5_109 (by first | decide | assumption | omega) (by first | rfl | assumption) rfl (by first | assumption | (rw [zk_u_s]; rfl) | (rw [hI]; rfl)) ⟨dX5_byteAt_40, rfl⟩ ?_ | refine zk_geti (pc' := 43) hC fl_X5_109 (by first | decide | assumption | omega) (by first | rfl | assumption) rfl ⟨dX5_byteAt_40, rfl⟩ ?_
      refine zk_icmp_geN (pc' := 46) hC ⟨dX5_byteAt_43, rfl⟩ 55 (by decide) (by omega) (by omega) (fun z => ?_) (fun z => ?_)
      · rw [md_b, if_neg (by omega), if_neg (by omega), if_neg (by omega)] at hR
        refine zk_iconst (pc' := 56) (x := nI 0) hC ⟨dX5_byteAt_55, rfl⟩ zc_iconst_0 ?_
        exact zk_iret (pc' := 57) hC hR rfl rfl rfl ⟨dX5_byteAt_56, rfl⟩
      · rw [md_b, if_neg (by omega), if_neg (by omega), if_pos (by omega)] at hR
        refine zk_aload_n (pc' := 47) hC rfl ⟨dX5_byteAt_46, rfl⟩ ?_
        refine zk_getr (pc' := 50) hC fl_X5_19 (by first | decide | assumption | omega) (by first | rfl | assumption) rfl ⟨dX5_byteAt_47, rfl⟩ ?_
        refine zk_iload_n (pc' := 51) hC rfl ⟨dX5_byteAt_50, rfl⟩ ?_
        first | refine zk_ialdU (pc' := 52) hC (by first | decide | assumption | omega) (by first | rfl | assumption) (by omega) (by first | decide | omega) ⟨dX5_byteAt_51, rfl⟩ ?_ | refine zk_ialdN (pc' := 52) hC (by first | decide | assumption | omega) (by first | rfl | assumption) (by omega) (by first | decide | omega) ⟨dX5_byteAt_51, rfl⟩ ?_ | refine zk_t0N (pc' := 52) hC (by omega) ⟨dX5_byteAt_51, rfl⟩ ?_ | refine zk_t2N (pc' := 52) hC (by omega) ⟨dX5_byteAt_51, rfl⟩ ?_
        refine zk_goto (pc' := 55) hC ⟨dX5_byteAt_52, rfl⟩ 56 (by decide) ?_
        exact zk_iret (pc' := 57) hC hR rfl rfl rfl ⟨dX5_byteAt_56, rfl⟩
    · refine zk_iload_n (pc' := 17) hC rfl ⟨dX5_byteAt_16, rfl⟩ ?_
      refine zk_aload_n (pc' := 18) hC rfl ⟨dX5_byteAt_17, rfl⟩ ?_
      first | refine zk_getiN (pc' := 21) hC fl_X5_106 (by first | decide | assumption | omega) (by first | rfl | assumption) rfl (by first | assumption | (rw [zk_u_s]; rfl) | (rw [hI]; rfl)) ⟨dX5_byteAt_18, rfl⟩ ?_ | refine zk_geti (pc' := 21) hC fl_X5_106 (by first | decide | assumption | omega) (by first | rfl | assumption) rfl ⟨dX5_byteAt_18, rfl⟩ ?_
      refine zk_icmp_geN (pc' := 24) hC ⟨dX5_byteAt_21, rfl⟩ 33 (by decide) (by omega) (by omega) (fun q3 => ?_) (fun q3 => ?_)
      · rw [md_b, if_neg (by omega), if_pos q2, if_neg (by omega)] at hR
        refine zk_iconst (pc' := 34) (x := nI 0) hC ⟨dX5_byteAt_33, rfl⟩ zc_iconst_0 ?_
        exact zk_iret (pc' := 35) hC hR rfl rfl rfl ⟨dX5_byteAt_34, rfl⟩
      · rw [md_b, if_neg (by omega), if_pos q2, if_pos (by omega)] at hR
        refine zk_aload_n (pc' := 25) hC rfl ⟨dX5_byteAt_24, rfl⟩ ?_
        refine zk_getr (pc' := 28) hC fl_X5_16 (by first | decide | assumption | omega) (by first | rfl | assumption) rfl ⟨dX5_byteAt_25, rfl⟩ ?_
        refine zk_iload_n (pc' := 29) hC rfl ⟨dX5_byteAt_28, rfl⟩ ?_
        first | refine zk_ialdU (pc' := 30) hC (by first | decide | assumption | omega) (by first | rfl | assumption) (by omega) (by first | decide | omega) ⟨dX5_byteAt_29, rfl⟩ ?_ | refine zk_ialdN (pc' := 30) hC (by first | decide | assumption | omega) (by first | rfl | assumption) (by omega) (by first | decide | omega) ⟨dX5_byteAt_29, rfl⟩ ?_ | refine zk_t0N (pc' := 30) hC (by omega) ⟨dX5_byteAt_29, rfl⟩ ?_ | refine zk_t2N (pc' := 30) hC (by omega) ⟨dX5_byteAt_29, rfl⟩ ?_
        refine zk_goto (pc' := 33) hC ⟨dX5_byteAt_30, rfl⟩ 34 (by decide) ?_
        exact zk_iret (pc' := 35) hC hR rfl rfl rfl ⟨dX5_byteAt_34, rfl⟩

/-- a word of the message, from byte i on -/
def md_w (bt : Nat → Int32) (i : Nat) : Nat → Int64
  | 0 => lN 0
  | b + 1 => md_w bt i b ||| ((bt (i + b)).toInt64 <<< ((nI (8 * b)).toInt64 &&& 63))
def md_v1 (h : Nat → Int64) : Nat → Int64 := fun k => if k < 8 then h k else zk_start.getD (k - 8) 0
def md_v2 (v h : Nat → Int64) (tk : Nat) : Nat → Int64 := vp_updL (fz_fill v (md_v1 h) 16) 12 (fz_fill v (md_v1 h) 16 12 ^^^ lN tk)
def md_v3 (v h : Nat → Int64) (tk b : Nat) : Nat → Int64 := vp_updL (md_v2 v h tk) 14 (if b = 0 then md_v2 v h tk 14 else md_v2 v h tk 14 ^^^ (-1))
def md_W (bt : Nat → Int32) (fr : Nat) (w : Nat → Int64) : Nat → Int64 := fz_fill w (fun k => md_w bt (fr + 8 * k) 8) 16
def md_fd (h v : Nat → Int64) : Nat → Int64 := fun k => h k ^^^ (v k ^^^ v (k + 8))
def md_set (J : zk_J) (h v w : Nat → Int64) : zk_J := zk_u (zk_u (zk_u J 5 h) 7 w) 6 v
theorem md_set_self (J : zk_J) : md_set J (J 5) (J 6) (J 7) = J := by unfold md_set; rw [zk_u_self, zk_u_self, zk_u_self]
theorem md_set_h {J : zk_J} {h v w : Nat → Int64} : md_set J h v w 5 = h := by simp [md_set, zk_u]
theorem md_set_v {J : zk_J} {h v w : Nat → Int64} : md_set J h v w 6 = v := by simp [md_set, zk_u]
theorem md_set_w {J : zk_J} {h v w : Nat → Int64} : md_set J h v w 7 = w := by simp [md_set, zk_u]
theorem md_set_o {J : zk_J} {h v w : Nat → Int64} {a : Nat} (h1 : a ≠ 5) (h2 : a ≠ 6) (h3 : a ≠ 7) : md_set J h v w a = J a := by simp [md_set, zk_u, h1, h2, h3]
theorem md_u5 {J : zk_J} {h v w x : Nat → Int64} : zk_u (md_set J h v w) 5 x = md_set J x v w := by
  funext a
  by_cases e : a = 5
  · subst e; simp [md_set, zk_u]
  · simp [md_set, zk_u, e]
theorem md_u6 {J : zk_J} {h v w x : Nat → Int64} : zk_u (md_set J h v w) 6 x = md_set J h x w := by
  funext a
  by_cases e : a = 6
  · subst e; simp [md_set, zk_u]
  · simp [md_set, zk_u, e]
theorem md_u7 {J : zk_J} {h v w x : Nat → Int64} : zk_u (md_set J h v w) 7 x = md_set J h v x := by
  funext a
  by_cases e : a = 7
  · subst e; simp [md_set, zk_u]
  · simp [md_set, zk_u, e]
theorem hz_rd8 (v w : Nat → Int64) (r : Nat) : hz_rd v w (8 * (r + 1)) =
    hz_mix (hz_mix (hz_mix (hz_mix (hz_mix (hz_mix (hz_mix (hz_mix (hz_rd v w (8 * r)) 0 4 8 12 (w (zk_ord.getD (r % 10 * 16 + 0) 0)) (w (zk_ord.getD (r % 10 * 16 + 1) 0))) 1 5 9 13 (w (zk_ord.getD (r % 10 * 16 + 2) 0)) (w (zk_ord.getD (r % 10 * 16 + 3) 0)))
      2 6 10 14 (w (zk_ord.getD (r % 10 * 16 + 4) 0)) (w (zk_ord.getD (r % 10 * 16 + 5) 0))) 3 7 11 15 (w (zk_ord.getD (r % 10 * 16 + 6) 0)) (w (zk_ord.getD (r % 10 * 16 + 7) 0)))
      0 5 10 15 (w (zk_ord.getD (r % 10 * 16 + 8) 0)) (w (zk_ord.getD (r % 10 * 16 + 9) 0))) 1 6 11 12 (w (zk_ord.getD (r % 10 * 16 + 10) 0)) (w (zk_ord.getD (r % 10 * 16 + 11) 0)))
      2 7 8 13 (w (zk_ord.getD (r % 10 * 16 + 12) 0)) (w (zk_ord.getD (r % 10 * 16 + 13) 0))) 3 4 9 14 (w (zk_ord.getD (r % 10 * 16 + 14) 0)) (w (zk_ord.getD (r % 10 * 16 + 15) 0)) := by
  have key : ∀ i, i < 8 → hz_rd v w (8 * r + (i + 1)) = hz_mix (hz_rd v w (8 * r + i)) (zk_four.getD (4 * i) 0) (zk_four.getD (4 * i + 1) 0) (zk_four.getD (4 * i + 2) 0) (zk_four.getD (4 * i + 3) 0) (w (zk_ord.getD (r % 10 * 16 + 2 * i) 0)) (w (zk_ord.getD (r % 10 * 16 + 2 * i + 1) 0)) := by
    intro i hi
    show hz_rd v w ((8 * r + i) + 1) = _
    rw [hz_rd, show (8 * r + i) % 8 = i by omega, show (8 * r + i) / 8 = r by omega]
  rw [show 8 * (r + 1) = 8 * r + (7 + 1) by omega, key 7 (by decide), key 6 (by decide), key 5 (by decide), key 4 (by decide), key 3 (by decide), key 2 (by decide), key 1 (by decide), key 0 (by decide)]
  rfl

theorem vp_updL_updL (f : Nat → Int64) (k : Nat) (x y : Int64) : vp_updL (vp_updL f k x) k y = vp_updL f k y := by funext a; by_cases h : a = k <;> simp [vp_updL, h]
set_option maxHeartbeats 1000000 in
set_option maxRecDepth 100000 in
theorem c_X5_part (X : zk_X) (I : zk_I) (J : zk_J) {g0 : Nat → Int32} {th ks sz bg kd ln ps tg sc dn : Nat} (hI : I 0 = md_g g0 th ks sz bg kd ln ps tg sc dn) {fr tk b : Nat} (hks : ks ≤ 64) (hsz : sz ≤ 1400) (hfr : fr < 1600) (htk : tk < 2000) (hb : b < 2) : zk_M 1 X yX5_part cX5_part 7 none (2, 50) [.ref (zk_ad X 0), .int (nI fr), .int (nI tk), .int (nI b)] I J none I (md_set J (fz_fill (J 5) (md_fd (J 5) (hz_rd (md_v3 (J 6) (J 5) tk b) (md_W (md_b (I 3) (I 4) ks sz) fr (J 7)) 96)) 8) (hz_rd (md_v3 (J 6) (J 5) tk b) (md_W (md_b (I 3) (I 4) ks sz) fr (J 7)) 96) (md_W (md_b (I 3) (I 4) ks sz) fr (J 7))) := by
  refine zk_M.intro (by decide) (lv := [some (.ref (zk_ad X 0)), some (.int (nI fr)), some (.int (nI tk)), some (.int (nI b)), none, none, none]) rfl rfl (fun E hC hR => ?_)
  refine zk_iconst (pc' := 1) (x := nI 0) hC ⟨dX5_part_0, rfl⟩ zc_iconst_0 ?_
  refine zk_is4 (pc' := 3) hC ⟨dX5_part_1, rfl⟩ rfl ?_
  refine zk_eqJ (J' := md_set J (J 5) (fz_fill (J 6) (md_v1 (J 5)) 0) (fz_fill (J 7) (fun k => md_w (md_b (I 3) (I 4) ks sz) (fr + 8 * k) 8) 0)) (by rw [fz_0, fz_0, md_set_self]) ?_
  refine zk_up (P := fun k => zk_A 1 X E 3 [some (.ref (zk_ad X 0)), some (.int (nI fr)), some (.int (nI tk)), some (.int (nI b)), some (.int (nI k)), none, none] [] I (md_set J (J 5) (fz_fill (J 6) (md_v1 (J 5)) k) (fz_fill (J 7) (fun k => md_w (md_b (I 3) (I 4) ks sz) (fr + 8 * k) 8) k))) 16 ?_ (fun k hk ih => ?_)
  · skip
    refine zk_iload (pc' := 5) hC rfl ⟨dX5_part_3, rfl⟩ ?_
    refine zk_bipush (pc' := 7) (x := nI 16) hC ⟨dX5_part_5, rfl⟩ zc_bipush_16 ?_
    refine zk_icmp_geN (pc' := 10) hC ⟨dX5_part_7, rfl⟩ 103 (by decide) (by omega) (by omega) (fun q => ?_) (fun q => ?_)
    · unfold md_W at hR
      have hV2 : md_v2 (J 6) (J 5) tk = vp_updL (fz_fill (J 6) (md_v1 (J 5)) 16) 12 (fz_fill (J 6) (md_v1 (J 5)) 16 12 ^^^ lN tk) := rfl
      have hV3 : md_v3 (J 6) (J 5) tk b = vp_updL (md_v2 (J 6) (J 5) tk) 14 (if b = 0 then md_v2 (J 6) (J 5) tk 14 else md_v2 (J 6) (J 5) tk 14 ^^^ (-1)) := rfl
      generalize fz_fill (J 7) (fun k => md_w (md_b (I 3) (I 4) ks sz) (fr + 8 * k) 8) 16 = W at hR ⊢
      generalize md_v3 (J 6) (J 5) tk b = V3 at hR hV3
      generalize md_v2 (J 6) (J 5) tk = V2 at hV2 hV3
      generalize fz_fill (J 6) (md_v1 (J 5)) 16 = V1 at hV2 ⊢
      refine zk_aload_n (pc' := 104) hC rfl ⟨dX5_part_103, rfl⟩ ?_
      refine zk_getr (pc' := 107) hC fl_X5_26 (by first | decide | assumption | omega) (by first | rfl | assumption) rfl ⟨dX5_part_104, rfl⟩ ?_
      refine zk_bipush (pc' := 109) (x := nI 12) hC ⟨dX5_part_107, rfl⟩ zc_bipush_12 ?_
      refine zk_dup2 (pc' := 110) hC ⟨dX5_part_109, rfl⟩ rfl rfl ?_
      first | refine zk_laldN (pc' := 111) hC (by first | decide | assumption | omega) (by first | rfl | assumption) (by omega) (by first | decide | omega) ⟨dX5_part_110, rfl⟩ ?_ | refine zk_t1N (pc' := 111) hC (by omega) ⟨dX5_part_110, rfl⟩ ?_
      rw [md_set_v]
      refine zk_iload_n (pc' := 112) hC rfl ⟨dX5_part_111, rfl⟩ ?_
      first | refine zk_i2lN (pc' := 113) hC ⟨dX5_part_112, rfl⟩ (by omega) ?_ | refine zk_i2l (pc' := 113) hC ⟨dX5_part_112, rfl⟩ ?_
      refine zk_lxor (pc' := 114) hC ⟨dX5_part_113, rfl⟩ ?_
      first | refine zk_lastN (pc' := 115) hC (by first | decide | assumption | omega) (by first | rfl | assumption) (by omega) (by first | decide | omega) ⟨dX5_part_114, rfl⟩ ?_
      rw [md_set_v, md_u6, ← hV2]
      suffices h147 : zk_A 1 X E 147 [some (.ref (zk_ad X 0)), some (.int (nI fr)), some (.int (nI tk)), some (.int (nI b)), some (.int (nI 16)), none, none] [] I (md_set J (J 5) V3 W) by
        refine zk_aload_n (pc' := 116) hC rfl ⟨dX5_part_115, rfl⟩ ?_
        refine zk_getr (pc' := 119) hC fl_X5_26 (by first | decide | assumption | omega) (by first | rfl | assumption) rfl ⟨dX5_part_116, rfl⟩ ?_
        refine zk_bipush (pc' := 121) (x := nI 14) hC ⟨dX5_part_119, rfl⟩ zc_bipush_14 ?_
        refine zk_iload_n (pc' := 122) hC rfl ⟨dX5_part_121, rfl⟩ ?_
        refine zk_if_eqN (pc' := 125) hC ⟨dX5_part_122, rfl⟩ 139 (by decide) (by omega) (fun q3 => ?_) (fun q3 => ?_)
        · refine zk_aload_n (pc' := 140) hC rfl ⟨dX5_part_139, rfl⟩ ?_
          refine zk_getr (pc' := 143) hC fl_X5_26 (by first | decide | assumption | omega) (by first | rfl | assumption) rfl ⟨dX5_part_140, rfl⟩ ?_
          refine zk_bipush (pc' := 145) (x := nI 14) hC ⟨dX5_part_143, rfl⟩ zc_bipush_14 ?_
          first | refine zk_laldN (pc' := 146) hC (by first | decide | assumption | omega) (by first | rfl | assumption) (by omega) (by first | decide | omega) ⟨dX5_part_145, rfl⟩ ?_ | refine zk_t1N (pc' := 146) hC (by omega) ⟨dX5_part_145, rfl⟩ ?_
          rw [md_set_v]
          first | refine zk_lastN (pc' := 147) hC (by first | decide | assumption | omega) (by first | rfl | assumption) (by omega) (by first | decide | omega) ⟨dX5_part_146, rfl⟩ ?_
          rw [md_set_v, md_u6]
          rw [hV3, if_pos q3] at h147
          exact h147
        · refine zk_aload_n (pc' := 126) hC rfl ⟨dX5_part_125, rfl⟩ ?_
          refine zk_getr (pc' := 129) hC fl_X5_26 (by first | decide | assumption | omega) (by first | rfl | assumption) rfl ⟨dX5_part_126, rfl⟩ ?_
          refine zk_bipush (pc' := 131) (x := nI 14) hC ⟨dX5_part_129, rfl⟩ zc_bipush_14 ?_
          first | refine zk_laldN (pc' := 132) hC (by first | decide | assumption | omega) (by first | rfl | assumption) (by omega) (by first | decide | omega) ⟨dX5_part_131, rfl⟩ ?_ | refine zk_t1N (pc' := 132) hC (by omega) ⟨dX5_part_131, rfl⟩ ?_
          rw [md_set_v]
          refine zk_ldc2 (pc' := 135) (x := -1) hC ⟨dX5_part_132, rfl⟩ kl_X5_120 ?_
          refine zk_lxor (pc' := 136) hC ⟨dX5_part_135, rfl⟩ ?_
          refine zk_goto (pc' := 139) hC ⟨dX5_part_136, rfl⟩ 146 (by decide) ?_
          first | refine zk_lastN (pc' := 147) hC (by first | decide | assumption | omega) (by first | rfl | assumption) (by omega) (by first | decide | omega) ⟨dX5_part_146, rfl⟩ ?_
          rw [md_set_v, md_u6]
          rw [hV3, if_neg q3] at h147
          exact h147
      refine zk_iconst (pc' := 148) (x := nI 0) hC ⟨dX5_part_147, rfl⟩ zc_iconst_0 ?_
      refine zk_is4 (pc' := 150) hC ⟨dX5_part_148, rfl⟩ rfl ?_
      refine zk_up (P := fun r => zk_A 1 X E 150 [some (.ref (zk_ad X 0)), some (.int (nI fr)), some (.int (nI tk)), some (.int (nI b)), some (.int (nI r)), none, none] [] I (md_set J (J 5) (hz_rd V3 W (8 * r)) W)) 12 ?_ (fun r hr ih => ?_)
      · skip
        refine zk_iload (pc' := 152) hC rfl ⟨dX5_part_150, rfl⟩ ?_
        refine zk_bipush (pc' := 154) (x := nI 12) hC ⟨dX5_part_152, rfl⟩ zc_bipush_12 ?_
        refine zk_icmp_geN (pc' := 157) hC ⟨dX5_part_154, rfl⟩ 376 (by decide) (by omega) (by omega) (fun q4 => ?_) (fun q4 => ?_)
        · change zk_A 1 X E 376 _ _ I (md_set J (J 5) (hz_rd V3 W 96) W)
          generalize hz_rd V3 W 96 = V at hR ⊢
          refine zk_iconst (pc' := 377) (x := nI 0) hC ⟨dX5_part_376, rfl⟩ zc_iconst_0 ?_
          refine zk_is4 (pc' := 379) hC ⟨dX5_part_377, rfl⟩ rfl ?_
          refine zk_eqJ (J' := md_set J (fz_fill (J 5) (md_fd (J 5) V) 0) V W) (by rw [fz_0]) ?_
          refine zk_up (P := fun k => zk_A 1 X E 379 [some (.ref (zk_ad X 0)), some (.int (nI fr)), some (.int (nI tk)), some (.int (nI b)), some (.int (nI k)), none, none] [] I (md_set J (fz_fill (J 5) (md_fd (J 5) V) k) V W)) 8 ?_ (fun k hk ih => ?_)
          · skip
            refine zk_iload (pc' := 381) hC rfl ⟨dX5_part_379, rfl⟩ ?_
            refine zk_bipush (pc' := 383) (x := nI 8) hC ⟨dX5_part_381, rfl⟩ zc_bipush_8 ?_
            refine zk_icmp_geN (pc' := 386) hC ⟨dX5_part_383, rfl⟩ 420 (by decide) (by omega) (by omega) (fun q5 => ?_) (fun q5 => ?_)
            · exact zk_vret (pc' := 421) hC hR rfl rfl rfl ⟨dX5_part_420, rfl⟩
            · omega
          · skip
            refine zk_iload (pc' := 381) hC rfl ⟨dX5_part_379, rfl⟩ ?_
            refine zk_bipush (pc' := 383) (x := nI 8) hC ⟨dX5_part_381, rfl⟩ zc_bipush_8 ?_
            refine zk_icmp_geN (pc' := 386) hC ⟨dX5_part_383, rfl⟩ 420 (by decide) (by omega) (by omega) (fun q5 => ?_) (fun q5 => ?_)
            · omega
            · refine zk_aload_n (pc' := 387) hC rfl ⟨dX5_part_386, rfl⟩ ?_
              refine zk_getr (pc' := 390) hC fl_X5_22 (by first | decide | assumption | omega) (by first | rfl | assumption) rfl ⟨dX5_part_387, rfl⟩ ?_
              refine zk_iload (pc' := 392) hC rfl ⟨dX5_part_390, rfl⟩ ?_
              refine zk_dup2 (pc' := 393) hC ⟨dX5_part_392, rfl⟩ rfl rfl ?_
              first | refine zk_laldN (pc' := 394) hC (by first | decide | assumption | omega) (by first | rfl | assumption) (by omega) (by first | decide | omega) ⟨dX5_part_393, rfl⟩ ?_ | refine zk_t1N (pc' := 394) hC (by omega) ⟨dX5_part_393, rfl⟩ ?_
              rw [md_set_h, fz_at (Nat.le_refl k)]
              refine zk_aload_n (pc' := 395) hC rfl ⟨dX5_part_394, rfl⟩ ?_
              refine zk_getr (pc' := 398) hC fl_X5_26 (by first | decide | assumption | omega) (by first | rfl | assumption) rfl ⟨dX5_part_395, rfl⟩ ?_
              refine zk_iload (pc' := 400) hC rfl ⟨dX5_part_398, rfl⟩ ?_
              first | refine zk_laldN (pc' := 401) hC (by first | decide | assumption | omega) (by first | rfl | assumption) (by omega) (by first | decide | omega) ⟨dX5_part_400, rfl⟩ ?_ | refine zk_t1N (pc' := 401) hC (by omega) ⟨dX5_part_400, rfl⟩ ?_
              rw [md_set_v]
              refine zk_aload_n (pc' := 402) hC rfl ⟨dX5_part_401, rfl⟩ ?_
              refine zk_getr (pc' := 405) hC fl_X5_26 (by first | decide | assumption | omega) (by first | rfl | assumption) rfl ⟨dX5_part_402, rfl⟩ ?_
              refine zk_iload (pc' := 407) hC rfl ⟨dX5_part_405, rfl⟩ ?_
              refine zk_bipush (pc' := 409) (x := nI 8) hC ⟨dX5_part_407, rfl⟩ zc_bipush_8 ?_
              first | refine zk_iaddN (pc' := 410) hC ⟨dX5_part_409, rfl⟩ ?_ | refine zk_iadd (pc' := 410) hC ⟨dX5_part_409, rfl⟩ ?_
              first | refine zk_laldN (pc' := 411) hC (by first | decide | assumption | omega) (by first | rfl | assumption) (by omega) (by first | decide | omega) ⟨dX5_part_410, rfl⟩ ?_ | refine zk_t1N (pc' := 411) hC (by omega) ⟨dX5_part_410, rfl⟩ ?_
              rw [md_set_v]
              refine zk_lxor (pc' := 412) hC ⟨dX5_part_411, rfl⟩ ?_
              refine zk_lxor (pc' := 413) hC ⟨dX5_part_412, rfl⟩ ?_
              first | refine zk_lastN (pc' := 414) hC (by first | decide | assumption | omega) (by first | rfl | assumption) (by omega) (by first | decide | omega) ⟨dX5_part_413, rfl⟩ ?_
              rw [md_set_h, md_u5, fz_S _ (md_fd (J 5) V) k (x := J 5 k ^^^ (V k ^^^ V (k + 8))) rfl]
              first | refine zk_in4 (pc' := 417) hC ⟨dX5_part_414, rfl⟩ ?_ | refine zk_iincG (pc' := 417) hC ⟨dX5_part_414, rfl⟩ rfl ?_
              refine zk_goto (pc' := 420) hC ⟨dX5_part_417, rfl⟩ 379 (by decide) ?_
              exact ih
        · omega
      · skip
        rw [hz_rd8] at ih
        have hnib := md_nib r hr
        have hol : ∀ k, k < 16 → zk_ord.getD (r % 10 * 16 + k) 0 < 16 := fun k hk => zk_ord_lt _ (by omega)
        refine zk_iload (pc' := 152) hC rfl ⟨dX5_part_150, rfl⟩ ?_
        refine zk_bipush (pc' := 154) (x := nI 12) hC ⟨dX5_part_152, rfl⟩ zc_bipush_12 ?_
        refine zk_icmp_geN (pc' := 157) hC ⟨dX5_part_154, rfl⟩ 376 (by decide) (by omega) (by omega) (fun q4 => ?_) (fun q4 => ?_)
        · omega
        · refine zk_iload (pc' := 159) hC rfl ⟨dX5_part_157, rfl⟩ ?_
          refine zk_callS1 (pc' := 162) hC ml_X5_122 ms_X5_order (c_X5_order X I _ r hr) (by decide) rfl rfl (Nat.le_of_ble_eq_true rfl) ⟨dX5_part_159, rfl⟩ ?_
          refine zk_ls5 (pc' := 164) hC ⟨dX5_part_162, rfl⟩ rfl ?_
          refine zk_aload_n (pc' := 165) hC rfl ⟨dX5_part_164, rfl⟩ ?_
          refine zk_iconst (pc' := 166) (x := nI 0) hC ⟨dX5_part_165, rfl⟩ zc_iconst_0 ?_
          refine zk_iconst (pc' := 167) (x := nI 4) hC ⟨dX5_part_166, rfl⟩ zc_iconst_4 ?_
          refine zk_bipush (pc' := 169) (x := nI 8) hC ⟨dX5_part_167, rfl⟩ zc_bipush_8 ?_
          refine zk_bipush (pc' := 171) (x := nI 12) hC ⟨dX5_part_169, rfl⟩ zc_bipush_12 ?_
          refine zk_aload_n (pc' := 172) hC rfl ⟨dX5_part_171, rfl⟩ ?_
          refine zk_lload (pc' := 174) hC rfl ⟨dX5_part_172, rfl⟩ ?_
          refine zk_iconst (pc' := 175) (x := nI 0) hC ⟨dX5_part_174, rfl⟩ zc_iconst_0 ?_
          refine zk_callV1 (pc' := 178) hC ml_X5_125 mi_X5_picked (c_X5_picked X I _ (md_o r) (k := 0) (hnib 0 (by decide)) (hol 0 (by decide))) (by decide) (by first | decide | assumption | omega) (by first | rfl | assumption) rfl rfl rfl (Nat.le_of_ble_eq_true rfl) ⟨dX5_part_175, rfl⟩ ?_
          rw [md_set_w]
          refine zk_aload_n (pc' := 179) hC rfl ⟨dX5_part_178, rfl⟩ ?_
          refine zk_lload (pc' := 181) hC rfl ⟨dX5_part_179, rfl⟩ ?_
          refine zk_iconst (pc' := 182) (x := nI 1) hC ⟨dX5_part_181, rfl⟩ zc_iconst_1 ?_
          refine zk_callV1 (pc' := 185) hC ml_X5_125 mi_X5_picked (c_X5_picked X I _ (md_o r) (k := 1) (hnib 1 (by decide)) (hol 1 (by decide))) (by decide) (by first | decide | assumption | omega) (by first | rfl | assumption) rfl rfl rfl (Nat.le_of_ble_eq_true rfl) ⟨dX5_part_182, rfl⟩ ?_
          rw [md_set_w]
          refine zk_callV0 (pc' := 188) hC ml_X5_128 mi_X5_mix (c_X5_mix X I _ _ _ (by decide) (by decide) (by decide) (by decide)) (by decide) (by first | decide | assumption | omega) (by first | rfl | assumption) rfl rfl rfl (Nat.le_of_ble_eq_true rfl) ⟨dX5_part_185, rfl⟩ ?_
          rw [md_set_v, md_u6]
          refine zk_aload_n (pc' := 189) hC rfl ⟨dX5_part_188, rfl⟩ ?_
          refine zk_iconst (pc' := 190) (x := nI 1) hC ⟨dX5_part_189, rfl⟩ zc_iconst_1 ?_
          refine zk_iconst (pc' := 191) (x := nI 5) hC ⟨dX5_part_190, rfl⟩ zc_iconst_5 ?_
          refine zk_bipush (pc' := 193) (x := nI 9) hC ⟨dX5_part_191, rfl⟩ zc_bipush_9 ?_
          refine zk_bipush (pc' := 195) (x := nI 13) hC ⟨dX5_part_193, rfl⟩ zc_bipush_13 ?_
          refine zk_aload_n (pc' := 196) hC rfl ⟨dX5_part_195, rfl⟩ ?_
          refine zk_lload (pc' := 198) hC rfl ⟨dX5_part_196, rfl⟩ ?_
          refine zk_iconst (pc' := 199) (x := nI 2) hC ⟨dX5_part_198, rfl⟩ zc_iconst_2 ?_
          refine zk_callV1 (pc' := 202) hC ml_X5_125 mi_X5_picked (c_X5_picked X I _ (md_o r) (k := 2) (hnib 2 (by decide)) (hol 2 (by decide))) (by decide) (by first | decide | assumption | omega) (by first | rfl | assumption) rfl rfl rfl (Nat.le_of_ble_eq_true rfl) ⟨dX5_part_199, rfl⟩ ?_
          rw [md_set_w]
          refine zk_aload_n (pc' := 203) hC rfl ⟨dX5_part_202, rfl⟩ ?_
          refine zk_lload (pc' := 205) hC rfl ⟨dX5_part_203, rfl⟩ ?_
          refine zk_iconst (pc' := 206) (x := nI 3) hC ⟨dX5_part_205, rfl⟩ zc_iconst_3 ?_
          refine zk_callV1 (pc' := 209) hC ml_X5_125 mi_X5_picked (c_X5_picked X I _ (md_o r) (k := 3) (hnib 3 (by decide)) (hol 3 (by decide))) (by decide) (by first | decide | assumption | omega) (by first | rfl | assumption) rfl rfl rfl (Nat.le_of_ble_eq_true rfl) ⟨dX5_part_206, rfl⟩ ?_
          rw [md_set_w]
          refine zk_callV0 (pc' := 212) hC ml_X5_128 mi_X5_mix (c_X5_mix X I _ _ _ (by decide) (by decide) (by decide) (by decide)) (by decide) (by first | decide | assumption | omega) (by first | rfl | assumption) rfl rfl rfl (Nat.le_of_ble_eq_true rfl) ⟨dX5_part_209, rfl⟩ ?_
          rw [md_set_v, md_u6]
          refine zk_aload_n (pc' := 213) hC rfl ⟨dX5_part_212, rfl⟩ ?_
          refine zk_iconst (pc' := 214) (x := nI 2) hC ⟨dX5_part_213, rfl⟩ zc_iconst_2 ?_
          refine zk_bipush (pc' := 216) (x := nI 6) hC ⟨dX5_part_214, rfl⟩ zc_bipush_6 ?_
          refine zk_bipush (pc' := 218) (x := nI 10) hC ⟨dX5_part_216, rfl⟩ zc_bipush_10 ?_
          refine zk_bipush (pc' := 220) (x := nI 14) hC ⟨dX5_part_218, rfl⟩ zc_bipush_14 ?_
          refine zk_aload_n (pc' := 221) hC rfl ⟨dX5_part_220, rfl⟩ ?_
          refine zk_lload (pc' := 223) hC rfl ⟨dX5_part_221, rfl⟩ ?_
          refine zk_iconst (pc' := 224) (x := nI 4) hC ⟨dX5_part_223, rfl⟩ zc_iconst_4 ?_
          refine zk_callV1 (pc' := 227) hC ml_X5_125 mi_X5_picked (c_X5_picked X I _ (md_o r) (k := 4) (hnib 4 (by decide)) (hol 4 (by decide))) (by decide) (by first | decide | assumption | omega) (by first | rfl | assumption) rfl rfl rfl (Nat.le_of_ble_eq_true rfl) ⟨dX5_part_224, rfl⟩ ?_
          rw [md_set_w]
          refine zk_aload_n (pc' := 228) hC rfl ⟨dX5_part_227, rfl⟩ ?_
          refine zk_lload (pc' := 230) hC rfl ⟨dX5_part_228, rfl⟩ ?_
          refine zk_iconst (pc' := 231) (x := nI 5) hC ⟨dX5_part_230, rfl⟩ zc_iconst_5 ?_
          refine zk_callV1 (pc' := 234) hC ml_X5_125 mi_X5_picked (c_X5_picked X I _ (md_o r) (k := 5) (hnib 5 (by decide)) (hol 5 (by decide))) (by decide) (by first | decide | assumption | omega) (by first | rfl | assumption) rfl rfl rfl (Nat.le_of_ble_eq_true rfl) ⟨dX5_part_231, rfl⟩ ?_
          rw [md_set_w]
          refine zk_callV0 (pc' := 237) hC ml_X5_128 mi_X5_mix (c_X5_mix X I _ _ _ (by decide) (by decide) (by decide) (by decide)) (by decide) (by first | decide | assumption | omega) (by first | rfl | assumption) rfl rfl rfl (Nat.le_of_ble_eq_true rfl) ⟨dX5_part_234, rfl⟩ ?_
          rw [md_set_v, md_u6]
          refine zk_aload_n (pc' := 238) hC rfl ⟨dX5_part_237, rfl⟩ ?_
          refine zk_iconst (pc' := 239) (x := nI 3) hC ⟨dX5_part_238, rfl⟩ zc_iconst_3 ?_
          refine zk_bipush (pc' := 241) (x := nI 7) hC ⟨dX5_part_239, rfl⟩ zc_bipush_7 ?_
          refine zk_bipush (pc' := 243) (x := nI 11) hC ⟨dX5_part_241, rfl⟩ zc_bipush_11 ?_
          refine zk_bipush (pc' := 245) (x := nI 15) hC ⟨dX5_part_243, rfl⟩ zc_bipush_15 ?_
          refine zk_aload_n (pc' := 246) hC rfl ⟨dX5_part_245, rfl⟩ ?_
          refine zk_lload (pc' := 248) hC rfl ⟨dX5_part_246, rfl⟩ ?_
          refine zk_bipush (pc' := 250) (x := nI 6) hC ⟨dX5_part_248, rfl⟩ zc_bipush_6 ?_
          refine zk_callV1 (pc' := 253) hC ml_X5_125 mi_X5_picked (c_X5_picked X I _ (md_o r) (k := 6) (hnib 6 (by decide)) (hol 6 (by decide))) (by decide) (by first | decide | assumption | omega) (by first | rfl | assumption) rfl rfl rfl (Nat.le_of_ble_eq_true rfl) ⟨dX5_part_250, rfl⟩ ?_
          rw [md_set_w]
          refine zk_aload_n (pc' := 254) hC rfl ⟨dX5_part_253, rfl⟩ ?_
          refine zk_lload (pc' := 256) hC rfl ⟨dX5_part_254, rfl⟩ ?_
          refine zk_bipush (pc' := 258) (x := nI 7) hC ⟨dX5_part_256, rfl⟩ zc_bipush_7 ?_
          refine zk_callV1 (pc' := 261) hC ml_X5_125 mi_X5_picked (c_X5_picked X I _ (md_o r) (k := 7) (hnib 7 (by decide)) (hol 7 (by decide))) (by decide) (by first | decide | assumption | omega) (by first | rfl | assumption) rfl rfl rfl (Nat.le_of_ble_eq_true rfl) ⟨dX5_part_258, rfl⟩ ?_
          rw [md_set_w]
          refine zk_callV0 (pc' := 264) hC ml_X5_128 mi_X5_mix (c_X5_mix X I _ _ _ (by decide) (by decide) (by decide) (by decide)) (by decide) (by first | decide | assumption | omega) (by first | rfl | assumption) rfl rfl rfl (Nat.le_of_ble_eq_true rfl) ⟨dX5_part_261, rfl⟩ ?_
          rw [md_set_v, md_u6]
          refine zk_aload_n (pc' := 265) hC rfl ⟨dX5_part_264, rfl⟩ ?_
          refine zk_iconst (pc' := 266) (x := nI 0) hC ⟨dX5_part_265, rfl⟩ zc_iconst_0 ?_
          refine zk_iconst (pc' := 267) (x := nI 5) hC ⟨dX5_part_266, rfl⟩ zc_iconst_5 ?_
          refine zk_bipush (pc' := 269) (x := nI 10) hC ⟨dX5_part_267, rfl⟩ zc_bipush_10 ?_
          refine zk_bipush (pc' := 271) (x := nI 15) hC ⟨dX5_part_269, rfl⟩ zc_bipush_15 ?_
          refine zk_aload_n (pc' := 272) hC rfl ⟨dX5_part_271, rfl⟩ ?_
          refine zk_lload (pc' := 274) hC rfl ⟨dX5_part_272, rfl⟩ ?_
          refine zk_bipush (pc' := 276) (x := nI 8) hC ⟨dX5_part_274, rfl⟩ zc_bipush_8 ?_
          refine zk_callV1 (pc' := 279) hC ml_X5_125 mi_X5_picked (c_X5_picked X I _ (md_o r) (k := 8) (hnib 8 (by decide)) (hol 8 (by decide))) (by decide) (by first | decide | assumption | omega) (by first | rfl | assumption) rfl rfl rfl (Nat.le_of_ble_eq_true rfl) ⟨dX5_part_276, rfl⟩ ?_
          rw [md_set_w]
          refine zk_aload_n (pc' := 280) hC rfl ⟨dX5_part_279, rfl⟩ ?_
          refine zk_lload (pc' := 282) hC rfl ⟨dX5_part_280, rfl⟩ ?_
          refine zk_bipush (pc' := 284) (x := nI 9) hC ⟨dX5_part_282, rfl⟩ zc_bipush_9 ?_
          refine zk_callV1 (pc' := 287) hC ml_X5_125 mi_X5_picked (c_X5_picked X I _ (md_o r) (k := 9) (hnib 9 (by decide)) (hol 9 (by decide))) (by decide) (by first | decide | assumption | omega) (by first | rfl | assumption) rfl rfl rfl (Nat.le_of_ble_eq_true rfl) ⟨dX5_part_284, rfl⟩ ?_
          rw [md_set_w]
          refine zk_callV0 (pc' := 290) hC ml_X5_128 mi_X5_mix (c_X5_mix X I _ _ _ (by decide) (by decide) (by decide) (by decide)) (by decide) (by first | decide | assumption | omega) (by first | rfl | assumption) rfl rfl rfl (Nat.le_of_ble_eq_true rfl) ⟨dX5_part_287, rfl⟩ ?_
          rw [md_set_v, md_u6]
          refine zk_aload_n (pc' := 291) hC rfl ⟨dX5_part_290, rfl⟩ ?_
          refine zk_iconst (pc' := 292) (x := nI 1) hC ⟨dX5_part_291, rfl⟩ zc_iconst_1 ?_
          refine zk_bipush (pc' := 294) (x := nI 6) hC ⟨dX5_part_292, rfl⟩ zc_bipush_6 ?_
          refine zk_bipush (pc' := 296) (x := nI 11) hC ⟨dX5_part_294, rfl⟩ zc_bipush_11 ?_
          refine zk_bipush (pc' := 298) (x := nI 12) hC ⟨dX5_part_296, rfl⟩ zc_bipush_12 ?_
          refine zk_aload_n (pc' := 299) hC rfl ⟨dX5_part_298, rfl⟩ ?_
          refine zk_lload (pc' := 301) hC rfl ⟨dX5_part_299, rfl⟩ ?_
          refine zk_bipush (pc' := 303) (x := nI 10) hC ⟨dX5_part_301, rfl⟩ zc_bipush_10 ?_
          refine zk_callV1 (pc' := 306) hC ml_X5_125 mi_X5_picked (c_X5_picked X I _ (md_o r) (k := 10) (hnib 10 (by decide)) (hol 10 (by decide))) (by decide) (by first | decide | assumption | omega) (by first | rfl | assumption) rfl rfl rfl (Nat.le_of_ble_eq_true rfl) ⟨dX5_part_303, rfl⟩ ?_
          rw [md_set_w]
          refine zk_aload_n (pc' := 307) hC rfl ⟨dX5_part_306, rfl⟩ ?_
          refine zk_lload (pc' := 309) hC rfl ⟨dX5_part_307, rfl⟩ ?_
          refine zk_bipush (pc' := 311) (x := nI 11) hC ⟨dX5_part_309, rfl⟩ zc_bipush_11 ?_
          refine zk_callV1 (pc' := 314) hC ml_X5_125 mi_X5_picked (c_X5_picked X I _ (md_o r) (k := 11) (hnib 11 (by decide)) (hol 11 (by decide))) (by decide) (by first | decide | assumption | omega) (by first | rfl | assumption) rfl rfl rfl (Nat.le_of_ble_eq_true rfl) ⟨dX5_part_311, rfl⟩ ?_
          rw [md_set_w]
          refine zk_callV0 (pc' := 317) hC ml_X5_128 mi_X5_mix (c_X5_mix X I _ _ _ (by decide) (by decide) (by decide) (by decide)) (by decide) (by first | decide | assumption | omega) (by first | rfl | assumption) rfl rfl rfl (Nat.le_of_ble_eq_true rfl) ⟨dX5_part_314, rfl⟩ ?_
          rw [md_set_v, md_u6]
          refine zk_aload_n (pc' := 318) hC rfl ⟨dX5_part_317, rfl⟩ ?_
          refine zk_iconst (pc' := 319) (x := nI 2) hC ⟨dX5_part_318, rfl⟩ zc_iconst_2 ?_
          refine zk_bipush (pc' := 321) (x := nI 7) hC ⟨dX5_part_319, rfl⟩ zc_bipush_7 ?_
          refine zk_bipush (pc' := 323) (x := nI 8) hC ⟨dX5_part_321, rfl⟩ zc_bipush_8 ?_
          refine zk_bipush (pc' := 325) (x := nI 13) hC ⟨dX5_part_323, rfl⟩ zc_bipush_13 ?_
          refine zk_aload_n (pc' := 326) hC rfl ⟨dX5_part_325, rfl⟩ ?_
          refine zk_lload (pc' := 328) hC rfl ⟨dX5_part_326, rfl⟩ ?_
          refine zk_bipush (pc' := 330) (x := nI 12) hC ⟨dX5_part_328, rfl⟩ zc_bipush_12 ?_
          refine zk_callV1 (pc' := 333) hC ml_X5_125 mi_X5_picked (c_X5_picked X I _ (md_o r) (k := 12) (hnib 12 (by decide)) (hol 12 (by decide))) (by decide) (by first | decide | assumption | omega) (by first | rfl | assumption) rfl rfl rfl (Nat.le_of_ble_eq_true rfl) ⟨dX5_part_330, rfl⟩ ?_
          rw [md_set_w]
          refine zk_aload_n (pc' := 334) hC rfl ⟨dX5_part_333, rfl⟩ ?_
          refine zk_lload (pc' := 336) hC rfl ⟨dX5_part_334, rfl⟩ ?_
          refine zk_bipush (pc' := 338) (x := nI 13) hC ⟨dX5_part_336, rfl⟩ zc_bipush_13 ?_
          refine zk_callV1 (pc' := 341) hC ml_X5_125 mi_X5_picked (c_X5_picked X I _ (md_o r) (k := 13) (hnib 13 (by decide)) (hol 13 (by decide))) (by decide) (by first | decide | assumption | omega) (by first | rfl | assumption) rfl rfl rfl (Nat.le_of_ble_eq_true rfl) ⟨dX5_part_338, rfl⟩ ?_
          rw [md_set_w]
          refine zk_callV0 (pc' := 344) hC ml_X5_128 mi_X5_mix (c_X5_mix X I _ _ _ (by decide) (by decide) (by decide) (by decide)) (by decide) (by first | decide | assumption | omega) (by first | rfl | assumption) rfl rfl rfl (Nat.le_of_ble_eq_true rfl) ⟨dX5_part_341, rfl⟩ ?_
          rw [md_set_v, md_u6]
          refine zk_aload_n (pc' := 345) hC rfl ⟨dX5_part_344, rfl⟩ ?_
          refine zk_iconst (pc' := 346) (x := nI 3) hC ⟨dX5_part_345, rfl⟩ zc_iconst_3 ?_
          refine zk_iconst (pc' := 347) (x := nI 4) hC ⟨dX5_part_346, rfl⟩ zc_iconst_4 ?_
          refine zk_bipush (pc' := 349) (x := nI 9) hC ⟨dX5_part_347, rfl⟩ zc_bipush_9 ?_
          refine zk_bipush (pc' := 351) (x := nI 14) hC ⟨dX5_part_349, rfl⟩ zc_bipush_14 ?_
          refine zk_aload_n (pc' := 352) hC rfl ⟨dX5_part_351, rfl⟩ ?_
          refine zk_lload (pc' := 354) hC rfl ⟨dX5_part_352, rfl⟩ ?_
          refine zk_bipush (pc' := 356) (x := nI 14) hC ⟨dX5_part_354, rfl⟩ zc_bipush_14 ?_
          refine zk_callV1 (pc' := 359) hC ml_X5_125 mi_X5_picked (c_X5_picked X I _ (md_o r) (k := 14) (hnib 14 (by decide)) (hol 14 (by decide))) (by decide) (by first | decide | assumption | omega) (by first | rfl | assumption) rfl rfl rfl (Nat.le_of_ble_eq_true rfl) ⟨dX5_part_356, rfl⟩ ?_
          rw [md_set_w]
          refine zk_aload_n (pc' := 360) hC rfl ⟨dX5_part_359, rfl⟩ ?_
          refine zk_lload (pc' := 362) hC rfl ⟨dX5_part_360, rfl⟩ ?_
          refine zk_bipush (pc' := 364) (x := nI 15) hC ⟨dX5_part_362, rfl⟩ zc_bipush_15 ?_
          refine zk_callV1 (pc' := 367) hC ml_X5_125 mi_X5_picked (c_X5_picked X I _ (md_o r) (k := 15) (hnib 15 (by decide)) (hol 15 (by decide))) (by decide) (by first | decide | assumption | omega) (by first | rfl | assumption) rfl rfl rfl (Nat.le_of_ble_eq_true rfl) ⟨dX5_part_364, rfl⟩ ?_
          rw [md_set_w]
          refine zk_callV0 (pc' := 370) hC ml_X5_128 mi_X5_mix (c_X5_mix X I _ _ _ (by decide) (by decide) (by decide) (by decide)) (by decide) (by first | decide | assumption | omega) (by first | rfl | assumption) rfl rfl rfl (Nat.le_of_ble_eq_true rfl) ⟨dX5_part_367, rfl⟩ ?_
          rw [md_set_v, md_u6]
          refine zk_fg5 ?_
          first | refine zk_in4 (pc' := 373) hC ⟨dX5_part_370, rfl⟩ ?_ | refine zk_iincG (pc' := 373) hC ⟨dX5_part_370, rfl⟩ rfl ?_
          refine zk_goto (pc' := 376) hC ⟨dX5_part_373, rfl⟩ 150 (by decide) ?_
          exact ih
    · omega
  · skip
    refine zk_iload (pc' := 5) hC rfl ⟨dX5_part_3, rfl⟩ ?_
    refine zk_bipush (pc' := 7) (x := nI 16) hC ⟨dX5_part_5, rfl⟩ zc_bipush_16 ?_
    refine zk_icmp_geN (pc' := 10) hC ⟨dX5_part_7, rfl⟩ 103 (by decide) (by omega) (by omega) (fun q => ?_) (fun q => ?_)
    · omega
    · generalize hW : fz_fill (J 7) (fun k => md_w (md_b (I 3) (I 4) ks sz) (fr + 8 * k) 8) k = Wk
      generalize hV : fz_fill (J 6) (md_v1 (J 5)) k = Vk
      refine zk_aload_n (pc' := 11) hC rfl ⟨dX5_part_10, rfl⟩ ?_
      refine zk_getr (pc' := 14) hC fl_X5_29 (by first | decide | assumption | omega) (by first | rfl | assumption) rfl ⟨dX5_part_11, rfl⟩ ?_
      refine zk_iload (pc' := 16) hC rfl ⟨dX5_part_14, rfl⟩ ?_
      refine zk_lconst (pc' := 17) (x := lN 0) hC ⟨dX5_part_16, rfl⟩ rfl ?_
      first | refine zk_lastN (pc' := 18) hC (by first | decide | assumption | omega) (by first | rfl | assumption) (by omega) (by first | decide | omega) ⟨dX5_part_17, rfl⟩ ?_
      rw [md_set_w, md_u7]
      refine zk_iconst (pc' := 19) (x := nI 0) hC ⟨dX5_part_18, rfl⟩ zc_iconst_0 ?_
      refine zk_is5 (pc' := 21) hC ⟨dX5_part_19, rfl⟩ rfl ?_
      refine zk_up (P := fun b2 => zk_A 1 X E 21 [some (.ref (zk_ad X 0)), some (.int (nI fr)), some (.int (nI tk)), some (.int (nI b)), some (.int (nI k)), some (.int (nI b2)), none] [] I (md_set J (J 5) Vk (vp_updL Wk k (md_w (md_b (I 3) (I 4) ks sz) (fr + 8 * k) b2)))) 8 ?_ (fun b2 hb2 ihb => ?_)
      · skip
        refine zk_iload (pc' := 23) hC rfl ⟨dX5_part_21, rfl⟩ ?_
        refine zk_bipush (pc' := 25) (x := nI 8) hC ⟨dX5_part_23, rfl⟩ zc_bipush_8 ?_
        refine zk_icmp_geN (pc' := 28) hC ⟨dX5_part_25, rfl⟩ 65 (by decide) (by omega) (by omega) (fun q2 => ?_) (fun q2 => ?_)
        · rw [← hW, fz_S _ _ k rfl]
          refine zk_aload_n (pc' := 66) hC rfl ⟨dX5_part_65, rfl⟩ ?_
          refine zk_getr (pc' := 69) hC fl_X5_26 (by first | decide | assumption | omega) (by first | rfl | assumption) rfl ⟨dX5_part_66, rfl⟩ ?_
          refine zk_iload (pc' := 71) hC rfl ⟨dX5_part_69, rfl⟩ ?_
          refine zk_iload (pc' := 73) hC rfl ⟨dX5_part_71, rfl⟩ ?_
          refine zk_bipush (pc' := 75) (x := nI 8) hC ⟨dX5_part_73, rfl⟩ zc_bipush_8 ?_
          refine zk_icmp_geN (pc' := 78) hC ⟨dX5_part_75, rfl⟩ 88 (by decide) (by omega) (by omega) (fun q3 => ?_) (fun q3 => ?_)
          · refine zk_iload (pc' := 90) hC rfl ⟨dX5_part_88, rfl⟩ ?_
            refine zk_bipush (pc' := 92) (x := nI 8) hC ⟨dX5_part_90, rfl⟩ zc_bipush_8 ?_
            first | refine zk_isubN (pc' := 93) hC ⟨dX5_part_92, rfl⟩ (by omega) ?_ | refine zk_isub (pc' := 93) hC ⟨dX5_part_92, rfl⟩ ?_
            refine zk_callS1 (pc' := 96) hC ml_X5_116 ms_X5_start (c_X5_start X I _ (k - 8) (by omega)) (by decide) rfl rfl (Nat.le_of_ble_eq_true rfl) ⟨dX5_part_93, rfl⟩ ?_
            first | refine zk_lastN (pc' := 97) hC (by first | decide | assumption | omega) (by first | rfl | assumption) (by omega) (by first | decide | omega) ⟨dX5_part_96, rfl⟩ ?_
            rw [md_set_v, md_u6, ← hV, fz_S _ _ k (by rw [md_v1, if_neg (by omega)])]
            refine zk_fg5 ?_
            first | refine zk_in4 (pc' := 100) hC ⟨dX5_part_97, rfl⟩ ?_ | refine zk_iincG (pc' := 100) hC ⟨dX5_part_97, rfl⟩ rfl ?_
            refine zk_goto (pc' := 103) hC ⟨dX5_part_100, rfl⟩ 3 (by decide) ?_
            exact ih
          · refine zk_aload_n (pc' := 79) hC rfl ⟨dX5_part_78, rfl⟩ ?_
            refine zk_getr (pc' := 82) hC fl_X5_22 (by first | decide | assumption | omega) (by first | rfl | assumption) rfl ⟨dX5_part_79, rfl⟩ ?_
            refine zk_iload (pc' := 84) hC rfl ⟨dX5_part_82, rfl⟩ ?_
            first | refine zk_laldN (pc' := 85) hC (by first | decide | assumption | omega) (by first | rfl | assumption) (by omega) (by first | decide | omega) ⟨dX5_part_84, rfl⟩ ?_ | refine zk_t1N (pc' := 85) hC (by omega) ⟨dX5_part_84, rfl⟩ ?_
            rw [md_set_h]
            refine zk_goto (pc' := 88) hC ⟨dX5_part_85, rfl⟩ 96 (by decide) ?_
            first | refine zk_lastN (pc' := 97) hC (by first | decide | assumption | omega) (by first | rfl | assumption) (by omega) (by first | decide | omega) ⟨dX5_part_96, rfl⟩ ?_
            rw [md_set_v, md_u6, ← hV, fz_S _ _ k (by rw [md_v1, if_pos q3])]
            refine zk_fg5 ?_
            first | refine zk_in4 (pc' := 100) hC ⟨dX5_part_97, rfl⟩ ?_ | refine zk_iincG (pc' := 100) hC ⟨dX5_part_97, rfl⟩ rfl ?_
            refine zk_goto (pc' := 103) hC ⟨dX5_part_100, rfl⟩ 3 (by decide) ?_
            exact ih
        · omega
      · skip
        refine zk_iload (pc' := 23) hC rfl ⟨dX5_part_21, rfl⟩ ?_
        refine zk_bipush (pc' := 25) (x := nI 8) hC ⟨dX5_part_23, rfl⟩ zc_bipush_8 ?_
        refine zk_icmp_geN (pc' := 28) hC ⟨dX5_part_25, rfl⟩ 65 (by decide) (by omega) (by omega) (fun q2 => ?_) (fun q2 => ?_)
        · omega
        · refine zk_aload_n (pc' := 29) hC rfl ⟨dX5_part_28, rfl⟩ ?_
          refine zk_getr (pc' := 32) hC fl_X5_29 (by first | decide | assumption | omega) (by first | rfl | assumption) rfl ⟨dX5_part_29, rfl⟩ ?_
          refine zk_iload (pc' := 34) hC rfl ⟨dX5_part_32, rfl⟩ ?_
          refine zk_dup2 (pc' := 35) hC ⟨dX5_part_34, rfl⟩ rfl rfl ?_
          first | refine zk_laldN (pc' := 36) hC (by first | decide | assumption | omega) (by first | rfl | assumption) (by omega) (by first | decide | omega) ⟨dX5_part_35, rfl⟩ ?_ | refine zk_t1N (pc' := 36) hC (by omega) ⟨dX5_part_35, rfl⟩ ?_
          rw [md_set_w, pk_uLs]
          refine zk_aload_n (pc' := 37) hC rfl ⟨dX5_part_36, rfl⟩ ?_
          refine zk_iload_n (pc' := 38) hC rfl ⟨dX5_part_37, rfl⟩ ?_
          refine zk_bipush (pc' := 40) (x := nI 8) hC ⟨dX5_part_38, rfl⟩ zc_bipush_8 ?_
          refine zk_iload (pc' := 42) hC rfl ⟨dX5_part_40, rfl⟩ ?_
          first | refine zk_imulN (pc' := 43) hC ⟨dX5_part_42, rfl⟩ ?_ | refine zk_imul (pc' := 43) hC ⟨dX5_part_42, rfl⟩ ?_
          first | refine zk_iaddN (pc' := 44) hC ⟨dX5_part_43, rfl⟩ ?_ | refine zk_iadd (pc' := 44) hC ⟨dX5_part_43, rfl⟩ ?_
          refine zk_iload (pc' := 46) hC rfl ⟨dX5_part_44, rfl⟩ ?_
          first | refine zk_iaddN (pc' := 47) hC ⟨dX5_part_46, rfl⟩ ?_ | refine zk_iadd (pc' := 47) hC ⟨dX5_part_46, rfl⟩ ?_
          refine zk_callV1 (pc' := 50) hC ml_X5_112 mi_X5_byteAt (c_X5_byteAt X I _ hI hks hsz (i := fr + 8 * k + b2) (by omega)) (by decide) (by first | decide | assumption | omega) (by first | rfl | assumption) rfl rfl rfl (Nat.le_of_ble_eq_true rfl) ⟨dX5_part_47, rfl⟩ ?_
          first | refine zk_i2lN (pc' := 51) hC ⟨dX5_part_50, rfl⟩ (by omega) ?_ | refine zk_i2l (pc' := 51) hC ⟨dX5_part_50, rfl⟩ ?_
          refine zk_bipush (pc' := 53) (x := nI 8) hC ⟨dX5_part_51, rfl⟩ zc_bipush_8 ?_
          refine zk_iload (pc' := 55) hC rfl ⟨dX5_part_53, rfl⟩ ?_
          first | refine zk_imulN (pc' := 56) hC ⟨dX5_part_55, rfl⟩ ?_ | refine zk_imul (pc' := 56) hC ⟨dX5_part_55, rfl⟩ ?_
          refine zk_lshl (pc' := 57) hC ⟨dX5_part_56, rfl⟩ ?_
          refine zk_lor (pc' := 58) hC ⟨dX5_part_57, rfl⟩ ?_
          first | refine zk_lastN (pc' := 59) hC (by first | decide | assumption | omega) (by first | rfl | assumption) (by omega) (by first | decide | omega) ⟨dX5_part_58, rfl⟩ ?_
          rw [md_set_w, md_u7, vp_updL_updL]
          first | refine zk_in5 (pc' := 62) hC ⟨dX5_part_59, rfl⟩ ?_ | refine zk_iincG (pc' := 62) hC ⟨dX5_part_59, rfl⟩ rfl ?_
          refine zk_goto (pc' := 65) hC ⟨dX5_part_62, rfl⟩ 21 (by decide) ?_
          exact ihb

