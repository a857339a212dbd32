/-! FILLING: its numbers (the fields from the fourth on) -/
def fl_g (g0 : Nat → Int32) (kd ln ps tg lb sb dn pa sl la : Nat) : Nat → Int32 := fun j => match j with
  | 4 => nI kd
  | 5 => nI ln
  | 6 => nI ps
  | 7 => nI tg
  | 8 => nI lb
  | 9 => nI sb
  | 10 => nI dn
  | 11 => nI pa
  | 12 => nI sl
  | 13 => nI la
  | j => g0 j

theorem fl_p4 {g0 : Nat → Int32} {kd ln ps tg lb sb dn pa sl la x : Nat} : upd (fl_g g0 kd ln ps tg lb sb dn pa sl la) 4 (nI x) = fl_g g0 x ln ps tg lb sb dn pa sl la := by
  funext j
  by_cases h : j = 4
  · subst h; simp [upd, fl_g]
  · simp only [upd, h, if_false]
    unfold fl_g
    split <;> first | rfl | (exfalso; exact h rfl)
theorem fl_p5 {g0 : Nat → Int32} {kd ln ps tg lb sb dn pa sl la x : Nat} : upd (fl_g g0 kd ln ps tg lb sb dn pa sl la) 5 (nI x) = fl_g g0 kd x ps tg lb sb dn pa sl la := by
  funext j
  by_cases h : j = 5
  · subst h; simp [upd, fl_g]
  · simp only [upd, h, if_false]
    unfold fl_g
    split <;> first | rfl | (exfalso; exact h rfl)
theorem fl_p6 {g0 : Nat → Int32} {kd ln ps tg lb sb dn pa sl la x : Nat} : upd (fl_g g0 kd ln ps tg lb sb dn pa sl la) 6 (nI x) = fl_g g0 kd ln x tg lb sb dn pa sl la := by
  funext j
  by_cases h : j = 6
  · subst h; simp [upd, fl_g]
  · simp only [upd, h, if_false]
    unfold fl_g
    split <;> first | rfl | (exfalso; exact h rfl)
theorem fl_p7 {g0 : Nat → Int32} {kd ln ps tg lb sb dn pa sl la x : Nat} : upd (fl_g g0 kd ln ps tg lb sb dn pa sl la) 7 (nI x) = fl_g g0 kd ln ps x lb sb dn pa sl la := by
  funext j
  by_cases h : j = 7
  · subst h; simp [upd, fl_g]
  · simp only [upd, h, if_false]
    unfold fl_g
    split <;> first | rfl | (exfalso; exact h rfl)
theorem fl_p8 {g0 : Nat → Int32} {kd ln ps tg lb sb dn pa sl la x : Nat} : upd (fl_g g0 kd ln ps tg lb sb dn pa sl la) 8 (nI x) = fl_g g0 kd ln ps tg x sb dn pa sl la := by
  funext j
  by_cases h : j = 8
  · subst h; simp [upd, fl_g]
  · simp only [upd, h, if_false]
    unfold fl_g
    split <;> first | rfl | (exfalso; exact h rfl)
theorem fl_p9 {g0 : Nat → Int32} {kd ln ps tg lb sb dn pa sl la x : Nat} : upd (fl_g g0 kd ln ps tg lb sb dn pa sl la) 9 (nI x) = fl_g g0 kd ln ps tg lb x dn pa sl la := by
  funext j
  by_cases h : j = 9
  · subst h; simp [upd, fl_g]
  · simp only [upd, h, if_false]
    unfold fl_g
    split <;> first | rfl | (exfalso; exact h rfl)
theorem fl_p10 {g0 : Nat → Int32} {kd ln ps tg lb sb dn pa sl la x : Nat} : upd (fl_g g0 kd ln ps tg lb sb dn pa sl la) 10 (nI x) = fl_g g0 kd ln ps tg lb sb x pa sl la := by
  funext j
  by_cases h : j = 10
  · subst h; simp [upd, fl_g]
  · simp only [upd, h, if_false]
    unfold fl_g
    split <;> first | rfl | (exfalso; exact h rfl)
theorem fl_p11 {g0 : Nat → Int32} {kd ln ps tg lb sb dn pa sl la x : Nat} : upd (fl_g g0 kd ln ps tg lb sb dn pa sl la) 11 (nI x) = fl_g g0 kd ln ps tg lb sb dn x sl la := by
  funext j
  by_cases h : j = 11
  · subst h; simp [upd, fl_g]
  · simp only [upd, h, if_false]
    unfold fl_g
    split <;> first | rfl | (exfalso; exact h rfl)
theorem fl_p12 {g0 : Nat → Int32} {kd ln ps tg lb sb dn pa sl la x : Nat} : upd (fl_g g0 kd ln ps tg lb sb dn pa sl la) 12 (nI x) = fl_g g0 kd ln ps tg lb sb dn pa x la := by
  funext j
  by_cases h : j = 12
  · subst h; simp [upd, fl_g]
  · simp only [upd, h, if_false]
    unfold fl_g
    split <;> first | rfl | (exfalso; exact h rfl)
theorem fl_p13 {g0 : Nat → Int32} {kd ln ps tg lb sb dn pa sl la x : Nat} : upd (fl_g g0 kd ln ps tg lb sb dn pa sl la) 13 (nI x) = fl_g g0 kd ln ps tg lb sb dn pa sl x := by
  funext j
  by_cases h : j = 13
  · subst h; simp [upd, fl_g]
  · simp only [upd, h, if_false]
    unfold fl_g
    split <;> first | rfl | (exfalso; exact h rfl)
abbrev fl_poss (kd ln ps m tg : Int32) : Prop := ¬ kd < 0 ∧ ¬ nI 2 < kd ∧ ¬ ln < nI 1 ∧ ¬ nI 4 < ln ∧ ¬ ps < nI 1 ∧ ¬ nI 5 < ps ∧ ¬ m < nI 8 * ln ∧ ¬ nI 128 < m ∧ ¬ tg < nI 4 ∧ ¬ nI 128 < tg
def fl_pi (kd ln ps m tg : Int32) : Int32 := if fl_poss kd ln ps m tg then nI 1 else nI 0

set_option maxHeartbeats 1000000 in
set_option maxRecDepth 100000 in
theorem c_X1_isPossible (X : zk_X) (I : zk_I) (J : zk_J) (kd ln ps mm tg : Int32) : zk_M 0 X yX1_isPossible cX1_isPossible 5 ((some .boolean)) (0, 0) [.int kd, .int ln, .int ps, .int mm, .int tg] I J (some (.int (fl_pi kd ln ps mm tg))) I J := by
  refine zk_M.intro (by decide) (lv := [some (.int kd), some (.int ln), some (.int ps), some (.int mm), some (.int tg)]) rfl rfl (fun E hC hR => ?_)
  refine zk_iload_n (pc' := 1) hC rfl ⟨dX1_isPossible_0, rfl⟩ ?_
  refine zk_if_lt (pc' := 4) hC ⟨dX1_isPossible_1, rfl⟩ 62 (by decide) (fun q0 => ?_) (fun q0 => ?_)
  · have hno : ¬ fl_poss kd ln ps mm tg := fun h => h.1 q0
    rw [fl_pi, if_neg hno] at hR
    refine zk_iconst (pc' := 63) (x := nI 0) hC ⟨dX1_isPossible_62, rfl⟩ zc_iconst_0 ?_
    exact zk_zret (pc' := 64) hC hR rfl rfl rfl rfl ⟨dX1_isPossible_63, rfl⟩
  · refine zk_iload_n (pc' := 5) hC rfl ⟨dX1_isPossible_4, rfl⟩ ?_
    refine zk_iconst (pc' := 6) (x := nI 2) hC ⟨dX1_isPossible_5, rfl⟩ zc_iconst_2 ?_
    refine zk_icmp_gt (pc' := 9) hC ⟨dX1_isPossible_6, rfl⟩ 62 (by decide) (fun q1 => ?_) (fun q1 => ?_)
    · have hno : ¬ fl_poss kd ln ps mm tg := fun h => h.2.1 q1
      rw [fl_pi, if_neg hno] at hR
      refine zk_iconst (pc' := 63) (x := nI 0) hC ⟨dX1_isPossible_62, rfl⟩ zc_iconst_0 ?_
      exact zk_zret (pc' := 64) hC hR rfl rfl rfl rfl ⟨dX1_isPossible_63, rfl⟩
    · refine zk_iload_n (pc' := 10) hC rfl ⟨dX1_isPossible_9, rfl⟩ ?_
      refine zk_iconst (pc' := 11) (x := nI 1) hC ⟨dX1_isPossible_10, rfl⟩ zc_iconst_1 ?_
      refine zk_icmp_lt (pc' := 14) hC ⟨dX1_isPossible_11, rfl⟩ 62 (by decide) (fun q2 => ?_) (fun q2 => ?_)
      · have hno : ¬ fl_poss kd ln ps mm tg := fun h => h.2.2.1 q2
        rw [fl_pi, if_neg hno] at hR
        refine zk_iconst (pc' := 63) (x := nI 0) hC ⟨dX1_isPossible_62, rfl⟩ zc_iconst_0 ?_
        exact zk_zret (pc' := 64) hC hR rfl rfl rfl rfl ⟨dX1_isPossible_63, rfl⟩
      · refine zk_iload_n (pc' := 15) hC rfl ⟨dX1_isPossible_14, rfl⟩ ?_
        refine zk_iconst (pc' := 16) (x := nI 4) hC ⟨dX1_isPossible_15, rfl⟩ zc_iconst_4 ?_
        refine zk_icmp_gt (pc' := 19) hC ⟨dX1_isPossible_16, rfl⟩ 62 (by decide) (fun q3 => ?_) (fun q3 => ?_)
        · have hno : ¬ fl_poss kd ln ps mm tg := fun h => h.2.2.2.1 q3
          rw [fl_pi, if_neg hno] at hR
          refine zk_iconst (pc' := 63) (x := nI 0) hC ⟨dX1_isPossible_62, rfl⟩ zc_iconst_0 ?_
          exact zk_zret (pc' := 64) hC hR rfl rfl rfl rfl ⟨dX1_isPossible_63, rfl⟩
        · refine zk_iload_n (pc' := 20) hC rfl ⟨dX1_isPossible_19, rfl⟩ ?_
          refine zk_iconst (pc' := 21) (x := nI 1) hC ⟨dX1_isPossible_20, rfl⟩ zc_iconst_1 ?_
          refine zk_icmp_lt (pc' := 24) hC ⟨dX1_isPossible_21, rfl⟩ 62 (by decide) (fun q4 => ?_) (fun q4 => ?_)
          · have hno : ¬ fl_poss kd ln ps mm tg := fun h => h.2.2.2.2.1 q4
            rw [fl_pi, if_neg hno] at hR
            refine zk_iconst (pc' := 63) (x := nI 0) hC ⟨dX1_isPossible_62, rfl⟩ zc_iconst_0 ?_
            exact zk_zret (pc' := 64) hC hR rfl rfl rfl rfl ⟨dX1_isPossible_63, rfl⟩
          · refine zk_iload_n (pc' := 25) hC rfl ⟨dX1_isPossible_24, rfl⟩ ?_
            refine zk_iconst (pc' := 26) (x := nI 5) hC ⟨dX1_isPossible_25, rfl⟩ zc_iconst_5 ?_
            refine zk_icmp_gt (pc' := 29) hC ⟨dX1_isPossible_26, rfl⟩ 62 (by decide) (fun q5 => ?_) (fun q5 => ?_)
            · have hno : ¬ fl_poss kd ln ps mm tg := fun h => h.2.2.2.2.2.1 q5
              rw [fl_pi, if_neg hno] at hR
              refine zk_iconst (pc' := 63) (x := nI 0) hC ⟨dX1_isPossible_62, rfl⟩ zc_iconst_0 ?_
              exact zk_zret (pc' := 64) hC hR rfl rfl rfl rfl ⟨dX1_isPossible_63, rfl⟩
            · refine zk_iload_n (pc' := 30) hC rfl ⟨dX1_isPossible_29, rfl⟩ ?_
              refine zk_bipush (pc' := 32) (x := nI 8) hC ⟨dX1_isPossible_30, rfl⟩ zc_bipush_8 ?_
              refine zk_iload_n (pc' := 33) hC rfl ⟨dX1_isPossible_32, rfl⟩ ?_
              first | refine zk_imulN (pc' := 34) hC ⟨dX1_isPossible_33, rfl⟩ ?_ | refine zk_imul (pc' := 34) hC ⟨dX1_isPossible_33, rfl⟩ ?_
              refine zk_icmp_lt (pc' := 37) hC ⟨dX1_isPossible_34, rfl⟩ 62 (by decide) (fun q6 => ?_) (fun q6 => ?_)
              · have hno : ¬ fl_poss kd ln ps mm tg := fun h => h.2.2.2.2.2.2.1 q6
                rw [fl_pi, if_neg hno] at hR
                refine zk_iconst (pc' := 63) (x := nI 0) hC ⟨dX1_isPossible_62, rfl⟩ zc_iconst_0 ?_
                exact zk_zret (pc' := 64) hC hR rfl rfl rfl rfl ⟨dX1_isPossible_63, rfl⟩
              · refine zk_iload_n (pc' := 38) hC rfl ⟨dX1_isPossible_37, rfl⟩ ?_
                refine zk_sipush (pc' := 41) (x := nI 128) hC ⟨dX1_isPossible_38, rfl⟩ zc_sipush_128 ?_
                refine zk_icmp_gt (pc' := 44) hC ⟨dX1_isPossible_41, rfl⟩ 62 (by decide) (fun q7 => ?_) (fun q7 => ?_)
                · have hno : ¬ fl_poss kd ln ps mm tg := fun h => h.2.2.2.2.2.2.2.1 q7
                  rw [fl_pi, if_neg hno] at hR
                  refine zk_iconst (pc' := 63) (x := nI 0) hC ⟨dX1_isPossible_62, rfl⟩ zc_iconst_0 ?_
                  exact zk_zret (pc' := 64) hC hR rfl rfl rfl rfl ⟨dX1_isPossible_63, rfl⟩
                · refine zk_iload (pc' := 46) hC rfl ⟨dX1_isPossible_44, rfl⟩ ?_
                  refine zk_iconst (pc' := 47) (x := nI 4) hC ⟨dX1_isPossible_46, rfl⟩ zc_iconst_4 ?_
                  refine zk_icmp_lt (pc' := 50) hC ⟨dX1_isPossible_47, rfl⟩ 62 (by decide) (fun q8 => ?_) (fun q8 => ?_)
                  · have hno : ¬ fl_poss kd ln ps mm tg := fun h => h.2.2.2.2.2.2.2.2.1 q8
                    rw [fl_pi, if_neg hno] at hR
                    refine zk_iconst (pc' := 63) (x := nI 0) hC ⟨dX1_isPossible_62, rfl⟩ zc_iconst_0 ?_
                    exact zk_zret (pc' := 64) hC hR rfl rfl rfl rfl ⟨dX1_isPossible_63, rfl⟩
                  · refine zk_iload (pc' := 52) hC rfl ⟨dX1_isPossible_50, rfl⟩ ?_
                    refine zk_sipush (pc' := 55) (x := nI 128) hC ⟨dX1_isPossible_52, rfl⟩ zc_sipush_128 ?_
                    refine zk_icmp_gt (pc' := 58) hC ⟨dX1_isPossible_55, rfl⟩ 62 (by decide) (fun q9 => ?_) (fun q9 => ?_)
                    · have hno : ¬ fl_poss kd ln ps mm tg := fun h => h.2.2.2.2.2.2.2.2.2 q9
                      rw [fl_pi, if_neg hno] at hR
                      refine zk_iconst (pc' := 63) (x := nI 0) hC ⟨dX1_isPossible_62, rfl⟩ zc_iconst_0 ?_
                      exact zk_zret (pc' := 64) hC hR rfl rfl rfl rfl ⟨dX1_isPossible_63, rfl⟩
                    · have hyes : fl_poss kd ln ps mm tg := ⟨q0, q1, q2, q3, q4, q5, q6, q7, q8, q9⟩
                      rw [fl_pi, if_pos hyes] at hR
                      refine zk_iconst (pc' := 59) (x := nI 1) hC ⟨dX1_isPossible_58, rfl⟩ zc_iconst_1 ?_
                      refine zk_goto (pc' := 62) hC ⟨dX1_isPossible_59, rfl⟩ 63 (by decide) ?_
                      exact zk_zret (pc' := 64) hC hR rfl rfl rfl rfl ⟨dX1_isPossible_63, rfl⟩

set_option maxHeartbeats 1000000 in
set_option maxRecDepth 100000 in
theorem c_X1_isBegun (X : zk_X) (I : zk_I) (J : zk_J) {g0 : Nat → Int32} {kd ln ps tg lb sb dn pa sl la : Nat} (hI : I 30 = fl_g g0 kd ln ps tg lb sb dn pa sl la) (hln : ln ≤ 4) : zk_M 0 X yX1_isBegun cX1_isBegun 1 ((some .boolean)) (0, 0) [.ref (zk_ad X 30)] I J (some (.int (if 0 < ln then nI 1 else nI 0))) I J := by
  refine zk_M.intro (by decide) (lv := [some (.ref (zk_ad X 30))]) rfl rfl (fun E hC hR => ?_)
  refine zk_aload_n (pc' := 1) hC rfl ⟨dX1_isBegun_0, rfl⟩ ?_
  first | refine zk_getiN (pc' := 4) hC fl_X1_38 (by first | decide | assumption | omega) (by first | rfl | assumption) rfl (by first | assumption | (rw [zk_u_s]; rfl) | (rw [hI]; rfl)) ⟨dX1_isBegun_1, rfl⟩ ?_ | refine zk_geti (pc' := 4) hC fl_X1_38 (by first | decide | assumption | omega) (by first | rfl | assumption) rfl ⟨dX1_isBegun_1, rfl⟩ ?_
  refine zk_if_leN (pc' := 7) hC ⟨dX1_isBegun_4, rfl⟩ 11 (by decide) (by omega) (fun q => ?_) (fun q => ?_)
  · rw [if_neg (by omega)] at hR
    refine zk_iconst (pc' := 12) (x := nI 0) hC ⟨dX1_isBegun_11, rfl⟩ zc_iconst_0 ?_
    exact zk_zret (pc' := 13) hC hR rfl rfl rfl rfl ⟨dX1_isBegun_12, rfl⟩
  · rw [if_pos q] at hR
    refine zk_iconst (pc' := 8) (x := nI 1) hC ⟨dX1_isBegun_7, rfl⟩ zc_iconst_1 ?_
    refine zk_goto (pc' := 11) hC ⟨dX1_isBegun_8, rfl⟩ 12 (by decide) ?_
    exact zk_zret (pc' := 13) hC hR rfl rfl rfl rfl ⟨dX1_isBegun_12, rfl⟩

set_option maxHeartbeats 1000000 in
set_option maxRecDepth 100000 in
theorem c_X1_blocks (X : zk_X) (I : zk_I) (J : zk_J) {g0 : Nat → Int32} {kd ln ps tg lb sb dn pa sl la : Nat} (hI : I 30 = fl_g g0 kd ln ps tg lb sb dn pa sl la) : zk_M 0 X yX1_blocks cX1_blocks 1 ((some .int)) (0, 0) [.ref (zk_ad X 30)] I J (some (.int (nI (ln * lb)))) I J := by
  refine zk_M.intro (by decide) (lv := [some (.ref (zk_ad X 30))]) rfl rfl (fun E hC hR => ?_)
  refine zk_aload_n (pc' := 1) hC rfl ⟨dX1_blocks_0, rfl⟩ ?_
  first | refine zk_getiN (pc' := 4) hC fl_X1_38 (by first | decide | assumption | omega) (by first | rfl | assumption) rfl (by first | assumption | (rw [zk_u_s]; rfl) | (rw [hI]; rfl)) ⟨dX1_blocks_1, rfl⟩ ?_ | refine zk_geti (pc' := 4) hC fl_X1_38 (by first | decide | assumption | omega) (by first | rfl | assumption) rfl ⟨dX1_blocks_1, rfl⟩ ?_
  refine zk_aload_n (pc' := 5) hC rfl ⟨dX1_blocks_4, rfl⟩ ?_
  first | refine zk_getiN (pc' := 8) hC fl_X1_50 (by first | decide | assumption | omega) (by first | rfl | assumption) rfl (by first | assumption | (rw [zk_u_s]; rfl) | (rw [hI]; rfl)) ⟨dX1_blocks_5, rfl⟩ ?_ | refine zk_geti (pc' := 8) hC fl_X1_50 (by first | decide | assumption | omega) (by first | rfl | assumption) rfl ⟨dX1_blocks_5, rfl⟩ ?_
  first | refine zk_imulN (pc' := 9) hC ⟨dX1_blocks_8, rfl⟩ ?_ | refine zk_imul (pc' := 9) hC ⟨dX1_blocks_8, rfl⟩ ?_
  exact zk_iret (pc' := 10) hC hR rfl rfl rfl ⟨dX1_blocks_9, rfl⟩

set_option maxHeartbeats 1000000 in
set_option maxRecDepth 100000 in
theorem c_X1_segments (X : zk_X) (I : zk_I) (J : zk_J) {g0 : Nat → Int32} {kd ln ps tg lb sb dn pa sl la : Nat} (hI : I 30 = fl_g g0 kd ln ps tg lb sb dn pa sl la) : zk_M 0 X yX1_segments cX1_segments 1 ((some .int)) (0, 0) [.ref (zk_ad X 30)] I J (some (.int (nI (ps * 4 * ln)))) I J := by
  refine zk_M.intro (by decide) (lv := [some (.ref (zk_ad X 30))]) rfl rfl (fun E hC hR => ?_)
  refine zk_aload_n (pc' := 1) hC rfl ⟨dX1_segments_0, rfl⟩ ?_
  first | refine zk_getiN (pc' := 4) hC fl_X1_41 (by first | decide | assumption | omega) (by first | rfl | assumption) rfl (by first | assumption | (rw [zk_u_s]; rfl) | (rw [hI]; rfl)) ⟨dX1_segments_1, rfl⟩ ?_ | refine zk_geti (pc' := 4) hC fl_X1_41 (by first | decide | assumption | omega) (by first | rfl | assumption) rfl ⟨dX1_segments_1, rfl⟩ ?_
  refine zk_iconst (pc' := 5) (x := nI 4) hC ⟨dX1_segments_4, rfl⟩ zc_iconst_4 ?_
  first | refine zk_imulN (pc' := 6) hC ⟨dX1_segments_5, rfl⟩ ?_ | refine zk_imul (pc' := 6) hC ⟨dX1_segments_5, rfl⟩ ?_
  refine zk_aload_n (pc' := 7) hC rfl ⟨dX1_segments_6, rfl⟩ ?_
  first | refine zk_getiN (pc' := 10) hC fl_X1_38 (by first | decide | assumption | omega) (by first | rfl | assumption) rfl (by first | assumption | (rw [zk_u_s]; rfl) | (rw [hI]; rfl)) ⟨dX1_segments_7, rfl⟩ ?_ | refine zk_geti (pc' := 10) hC fl_X1_38 (by first | decide | assumption | omega) (by first | rfl | assumption) rfl ⟨dX1_segments_7, rfl⟩ ?_
  first | refine zk_imulN (pc' := 11) hC ⟨dX1_segments_10, rfl⟩ ?_ | refine zk_imul (pc' := 11) hC ⟨dX1_segments_10, rfl⟩ ?_
  exact zk_iret (pc' := 12) hC hR rfl rfl rfl ⟨dX1_segments_11, rfl⟩

set_option maxHeartbeats 1000000 in
set_option maxRecDepth 100000 in
theorem c_X1_blockOf (X : zk_X) (I : zk_I) (J : zk_J) {b : Nat} (hb : b < 128) : zk_M 0 X yX1_blockOf cX1_blockOf 2 ((some (.array .long))) (0, 0) [.ref (zk_ad X 30), .int (nI b)] I J (some (.ref (zk_ad X (38 + b)))) I J := by
  refine zk_M.intro (by decide) (lv := [some (.ref (zk_ad X 30)), some (.int (nI b))]) rfl rfl (fun E hC hR => ?_)
  refine zk_iload_n (pc' := 1) hC rfl ⟨dX1_blockOf_0, rfl⟩ ?_
  refine zk_if_ltN (pc' := 4) hC ⟨dX1_blockOf_1, rfl⟩ 20 (by decide) (by omega) ?_
  refine zk_iload_n (pc' := 5) hC rfl ⟨dX1_blockOf_4, rfl⟩ ?_
  refine zk_sipush (pc' := 8) (x := nI 128) hC ⟨dX1_blockOf_5, rfl⟩ zc_sipush_128 ?_
  refine zk_icmp_geN (pc' := 11) hC ⟨dX1_blockOf_8, rfl⟩ 20 (by decide) (by omega) (by omega) (fun q2 => ?_) (fun q2 => ?_)
  · omega
  · refine zk_aload_n (pc' := 12) hC rfl ⟨dX1_blockOf_11, rfl⟩ ?_
    refine zk_getr (pc' := 15) hC fl_X1_11 (by first | decide | assumption | omega) (by first | rfl | assumption) rfl ⟨dX1_blockOf_12, rfl⟩ ?_
    refine zk_iload_n (pc' := 16) hC rfl ⟨dX1_blockOf_15, rfl⟩ ?_
    refine zk_aaldN (pc' := 17) hC (by first | decide | assumption | omega) (by first | rfl | assumption) rfl rfl (by omega) (by first | decide | omega) ⟨dX1_blockOf_16, rfl⟩ ?_
    refine zk_goto (pc' := 20) hC ⟨dX1_blockOf_17, rfl⟩ 24 (by decide) ?_
    exact zk_aret (pc' := 25) hC hR (Or.inr ⟨_, rfl⟩) rfl rfl rfl ⟨dX1_blockOf_24, rfl⟩

theorem fl_row {b : Nat} (hb : b < 128) : 38 + b < zk_N 0 ∧ zk_sh 0 (38 + b) = .inl (2, 128) := ⟨by show 38 + b < 166; omega, by show zk_sh0 (38 + b) = _; unfold zk_sh0; rw [if_pos (by omega)]⟩
def fl_wd (J : zk_J) (nb : Nat) (x y : Int32) : Int64 := if x < 0 then lN 0 else if nI nb ≤ x then lN 0 else if y < 0 then lN 0 else if y < nI 128 then J (38 + x.toNatClampNeg) y.toNatClampNeg else lN 0

set_option maxHeartbeats 1000000 in
set_option maxRecDepth 100000 in
theorem c_X1_wordOf (X : zk_X) (I : zk_I) (J : zk_J) {g0 : Nat → Int32} {kd ln ps tg lb sb dn pa sl la : Nat} (hI : I 30 = fl_g g0 kd ln ps tg lb sb dn pa sl la) (hnb : ln * lb ≤ 128) (x y : Int32) : zk_M 0 X yX1_wordOf cX1_wordOf 3 ((some .long)) (1, 21) [.ref (zk_ad X 30), .int x, .int y] I J (some (.long (fl_wd J (ln * lb) x y))) I J := by
  refine zk_M.intro (by decide) (lv := [some (.ref (zk_ad X 30)), some (.int x), some (.int y)]) rfl rfl (fun E hC hR => ?_)
  refine zk_iload_n (pc' := 1) hC rfl ⟨dX1_wordOf_0, rfl⟩ ?_
  refine zk_if_lt (pc' := 4) hC ⟨dX1_wordOf_1, rfl⟩ 23 (by decide) (fun q0 => ?_) (fun q0 => ?_)
  · rw [fl_wd, if_pos q0] at hR
    refine zk_lconst (pc' := 24) (x := lN 0) hC ⟨dX1_wordOf_23, rfl⟩ rfl ?_
    exact zk_lret (pc' := 25) hC hR rfl rfl rfl ⟨dX1_wordOf_24, rfl⟩
  · refine zk_iload_n (pc' := 5) hC rfl ⟨dX1_wordOf_4, rfl⟩ ?_
    refine zk_aload_n (pc' := 6) hC rfl ⟨dX1_wordOf_5, rfl⟩ ?_
    refine zk_callV1 (pc' := 9) hC ml_X1_64 mi_X1_blocks (c_X1_blocks X I J hI) (by decide) (by first | decide | assumption | omega) (by first | rfl | assumption) rfl rfl rfl (Nat.le_of_ble_eq_true rfl) ⟨dX1_wordOf_6, rfl⟩ ?_
    refine zk_icmp_ge (pc' := 12) hC ⟨dX1_wordOf_9, rfl⟩ 23 (by decide) (fun q1 => ?_) (fun q1 => ?_)
    · rw [fl_wd, if_neg q0, if_pos q1] at hR
      refine zk_lconst (pc' := 24) (x := lN 0) hC ⟨dX1_wordOf_23, rfl⟩ rfl ?_
      exact zk_lret (pc' := 25) hC hR rfl rfl rfl ⟨dX1_wordOf_24, rfl⟩
    · refine zk_iload_n (pc' := 13) hC rfl ⟨dX1_wordOf_12, rfl⟩ ?_
      refine zk_if_lt (pc' := 16) hC ⟨dX1_wordOf_13, rfl⟩ 23 (by decide) (fun q2 => ?_) (fun q2 => ?_)
      · rw [fl_wd, if_neg q0, if_neg q1, if_pos q2] at hR
        refine zk_lconst (pc' := 24) (x := lN 0) hC ⟨dX1_wordOf_23, rfl⟩ rfl ?_
        exact zk_lret (pc' := 25) hC hR rfl rfl rfl ⟨dX1_wordOf_24, rfl⟩
      · refine zk_iload_n (pc' := 17) hC rfl ⟨dX1_wordOf_16, rfl⟩ ?_
        refine zk_sipush (pc' := 20) (x := nI 128) hC ⟨dX1_wordOf_17, rfl⟩ zc_sipush_128 ?_
        refine zk_icmp_lt (pc' := 23) hC ⟨dX1_wordOf_20, rfl⟩ 25 (by decide) (fun q3 => ?_) (fun q3 => ?_)
        · rw [fl_wd, if_neg q0, if_neg q1, if_neg q2, if_pos q3] at hR
          obtain ⟨b, hb, rfl⟩ := nI_of q0
          obtain ⟨k, hk, rfl⟩ := nI_of q2
          have hbn : b < ln * lb := Nat.not_le.mp fun z => q1 (nI_le z hb)
          have hk8 : k < 128 := Nat.not_le.mp fun z => nI_nlt z hk q3
          rw [nI_clamp hb, nI_clamp hk] at hR
          obtain ⟨hr1, hr2⟩ := fl_row (b := b) (by omega)
          refine zk_aload_n (pc' := 26) hC rfl ⟨dX1_wordOf_25, rfl⟩ ?_
          refine zk_iload_n (pc' := 27) hC rfl ⟨dX1_wordOf_26, rfl⟩ ?_
          refine zk_callV1 (pc' := 30) hC ml_X1_68 mi_X1_blockOf (c_X1_blockOf X I J (b := b) (by omega)) (by decide) (by first | decide | assumption | omega) (by first | rfl | assumption) rfl rfl rfl (Nat.le_of_ble_eq_true rfl) ⟨dX1_wordOf_27, rfl⟩ ?_
          refine zk_iload_n (pc' := 31) hC rfl ⟨dX1_wordOf_30, rfl⟩ ?_
          first | refine zk_laldU (pc' := 32) hC (by first | decide | assumption | omega) (by first | rfl | assumption) (by omega) (by first | decide | omega) ⟨dX1_wordOf_31, rfl⟩ ?_ | refine zk_laldN (pc' := 32) hC (by first | decide | assumption | omega) (by first | rfl | assumption) (by omega) (by first | decide | omega) ⟨dX1_wordOf_31, rfl⟩ ?_ | refine zk_t1N (pc' := 32) hC (by omega) ⟨dX1_wordOf_31, rfl⟩ ?_
          exact zk_lret (pc' := 33) hC hR rfl rfl rfl ⟨dX1_wordOf_32, rfl⟩
        · rw [fl_wd, if_neg q0, if_neg q1, if_neg q2, if_neg q3] at hR
          refine zk_lconst (pc' := 24) (x := lN 0) hC ⟨dX1_wordOf_23, rfl⟩ rfl ?_
          exact zk_lret (pc' := 25) hC hR rfl rfl rfl ⟨dX1_wordOf_24, rfl⟩

set_option maxHeartbeats 1000000 in
set_option maxRecDepth 100000 in
theorem c_X1_isFirstSlice (X : zk_X) (I : zk_I) (J : zk_J) {g0 : Nat → Int32} {kd ln ps tg lb sb dn pa sl la : Nat} (hI : I 30 = fl_g g0 kd ln ps tg lb sb dn pa sl la) (hpa : pa ≤ 5) (hsl : sl ≤ 4) : zk_M 0 X yX1_isFirstSlice cX1_isFirstSlice 1 ((some .boolean)) (0, 0) [.ref (zk_ad X 30)] I J (some (.int (nI (if pa = 0 ∧ sl = 0 then 1 else 0)))) I J := by
  refine zk_M.intro (by decide) (lv := [some (.ref (zk_ad X 30))]) rfl rfl (fun E hC hR => ?_)
  refine zk_aload_n (pc' := 1) hC rfl ⟨dX1_isFirstSlice_0, rfl⟩ ?_
  first | refine zk_getiN (pc' := 4) hC fl_X1_89 (by first | decide | assumption | omega) (by first | rfl | assumption) rfl (by first | assumption | (rw [zk_u_s]; rfl) | (rw [hI]; rfl)) ⟨dX1_isFirstSlice_1, rfl⟩ ?_ | refine zk_geti (pc' := 4) hC fl_X1_89 (by first | decide | assumption | omega) (by first | rfl | assumption) rfl ⟨dX1_isFirstSlice_1, rfl⟩ ?_
  refine zk_if_neN (pc' := 7) hC ⟨dX1_isFirstSlice_4, rfl⟩ 18 (by decide) (by omega) (fun q => ?_) (fun q => ?_)
  · rw [if_neg (by omega)] at hR
    refine zk_iconst (pc' := 19) (x := nI 0) hC ⟨dX1_isFirstSlice_18, rfl⟩ zc_iconst_0 ?_
    exact zk_zret (pc' := 20) hC hR rfl rfl rfl rfl ⟨dX1_isFirstSlice_19, rfl⟩
  · refine zk_aload_n (pc' := 8) hC rfl ⟨dX1_isFirstSlice_7, rfl⟩ ?_
    first | refine zk_getiN (pc' := 11) hC fl_X1_86 (by first | decide | assumption | omega) (by first | rfl | assumption) rfl (by first | assumption | (rw [zk_u_s]; rfl) | (rw [hI]; rfl)) ⟨dX1_isFirstSlice_8, rfl⟩ ?_ | refine zk_geti (pc' := 11) hC fl_X1_86 (by first | decide | assumption | omega) (by first | rfl | assumption) rfl ⟨dX1_isFirstSlice_8, rfl⟩ ?_
    refine zk_if_neN (pc' := 14) hC ⟨dX1_isFirstSlice_11, rfl⟩ 18 (by decide) (by omega) (fun q2 => ?_) (fun q2 => ?_)
    · rw [if_neg (by omega)] at hR
      refine zk_iconst (pc' := 19) (x := nI 0) hC ⟨dX1_isFirstSlice_18, rfl⟩ zc_iconst_0 ?_
      exact zk_zret (pc' := 20) hC hR rfl rfl rfl rfl ⟨dX1_isFirstSlice_19, rfl⟩
    · rw [if_pos ⟨q, q2⟩] at hR
      refine zk_iconst (pc' := 15) (x := nI 1) hC ⟨dX1_isFirstSlice_14, rfl⟩ zc_iconst_1 ?_
      refine zk_goto (pc' := 18) hC ⟨dX1_isFirstSlice_15, rfl⟩ 19 (by decide) ?_
      exact zk_zret (pc' := 20) hC hR rfl rfl rfl rfl ⟨dX1_isFirstSlice_19, rfl⟩

set_option maxHeartbeats 1000000 in
set_option maxRecDepth 100000 in
theorem c_X1_goesByAddress (X : zk_X) (I : zk_I) (J : zk_J) {g0 : Nat → Int32} {kd ln ps tg lb sb dn pa sl la : Nat} (hI : I 30 = fl_g g0 kd ln ps tg lb sb dn pa sl la) (hkd : kd ≤ 2) (hpa : pa ≤ 5) (hsl : sl ≤ 4) : zk_M 0 X yX1_goesByAddress cX1_goesByAddress 1 ((some .boolean)) (0, 0) [.ref (zk_ad X 30)] I J (some (.int (nI (if kd = 1 ∨ (kd = 2 ∧ pa = 0 ∧ sl < 2) then 1 else 0)))) I J := by
  refine zk_M.intro (by decide) (lv := [some (.ref (zk_ad X 30))]) rfl rfl (fun E hC hR => ?_)
  refine zk_aload_n (pc' := 1) hC rfl ⟨dX1_goesByAddress_0, rfl⟩ ?_
  first | refine zk_getiN (pc' := 4) hC fl_X1_34 (by first | decide | assumption | omega) (by first | rfl | assumption) rfl (by first | assumption | (rw [zk_u_s]; rfl) | (rw [hI]; rfl)) ⟨dX1_goesByAddress_1, rfl⟩ ?_ | refine zk_geti (pc' := 4) hC fl_X1_34 (by first | decide | assumption | omega) (by first | rfl | assumption) rfl ⟨dX1_goesByAddress_1, rfl⟩ ?_
  refine zk_iconst (pc' := 5) (x := nI 1) hC ⟨dX1_goesByAddress_4, rfl⟩ zc_iconst_1 ?_
  refine zk_icmp_eqN (pc' := 8) hC ⟨dX1_goesByAddress_5, rfl⟩ 31 (by decide) (by omega) (by omega) (fun q => ?_) (fun q => ?_)
  · rw [if_pos (by omega)] at hR
    refine zk_iconst (pc' := 32) (x := nI 1) hC ⟨dX1_goesByAddress_31, rfl⟩ zc_iconst_1 ?_
    refine zk_goto (pc' := 35) hC ⟨dX1_goesByAddress_32, rfl⟩ 36 (by decide) ?_
    exact zk_zret (pc' := 37) hC hR rfl rfl rfl rfl ⟨dX1_goesByAddress_36, rfl⟩
  · refine zk_aload_n (pc' := 9) hC rfl ⟨dX1_goesByAddress_8, rfl⟩ ?_
    first | refine zk_getiN (pc' := 12) hC fl_X1_34 (by first | decide | assumption | omega) (by first | rfl | assumption) rfl (by first | assumption | (rw [zk_u_s]; rfl) | (rw [hI]; rfl)) ⟨dX1_goesByAddress_9, rfl⟩ ?_ | refine zk_geti (pc' := 12) hC fl_X1_34 (by first | decide | assumption | omega) (by first | rfl | assumption) rfl ⟨dX1_goesByAddress_9, rfl⟩ ?_
    refine zk_iconst (pc' := 13) (x := nI 2) hC ⟨dX1_goesByAddress_12, rfl⟩ zc_iconst_2 ?_
    refine zk_icmp_neN (pc' := 16) hC ⟨dX1_goesByAddress_13, rfl⟩ 35 (by decide) (by omega) (by omega) (fun q2 => ?_) (fun q2 => ?_)
    · rw [if_neg (by omega)] at hR
      refine zk_iconst (pc' := 36) (x := nI 0) hC ⟨dX1_goesByAddress_35, rfl⟩ zc_iconst_0 ?_
      exact zk_zret (pc' := 37) hC hR rfl rfl rfl rfl ⟨dX1_goesByAddress_36, rfl⟩
    · refine zk_aload_n (pc' := 17) hC rfl ⟨dX1_goesByAddress_16, rfl⟩ ?_
      first | refine zk_getiN (pc' := 20) hC fl_X1_89 (by first | decide | assumption | omega) (by first | rfl | assumption) rfl (by first | assumption | (rw [zk_u_s]; rfl) | (rw [hI]; rfl)) ⟨dX1_goesByAddress_17, rfl⟩ ?_ | refine zk_geti (pc' := 20) hC fl_X1_89 (by first | decide | assumption | omega) (by first | rfl | assumption) rfl ⟨dX1_goesByAddress_17, rfl⟩ ?_
      refine zk_if_neN (pc' := 23) hC ⟨dX1_goesByAddress_20, rfl⟩ 35 (by decide) (by omega) (fun q3 => ?_) (fun q3 => ?_)
      · rw [if_neg (by omega)] at hR
        refine zk_iconst (pc' := 36) (x := nI 0) hC ⟨dX1_goesByAddress_35, rfl⟩ zc_iconst_0 ?_
        exact zk_zret (pc' := 37) hC hR rfl rfl rfl rfl ⟨dX1_goesByAddress_36, rfl⟩
      · refine zk_aload_n (pc' := 24) hC rfl ⟨dX1_goesByAddress_23, rfl⟩ ?_
        first | refine zk_getiN (pc' := 27) hC fl_X1_86 (by first | decide | assumption | omega) (by first | rfl | assumption) rfl (by first | assumption | (rw [zk_u_s]; rfl) | (rw [hI]; rfl)) ⟨dX1_goesByAddress_24, rfl⟩ ?_ | refine zk_geti (pc' := 27) hC fl_X1_86 (by first | decide | assumption | omega) (by first | rfl | assumption) rfl ⟨dX1_goesByAddress_24, rfl⟩ ?_
        refine zk_iconst (pc' := 28) (x := nI 2) hC ⟨dX1_goesByAddress_27, rfl⟩ zc_iconst_2 ?_
        refine zk_icmp_geN (pc' := 31) hC ⟨dX1_goesByAddress_28, rfl⟩ 35 (by decide) (by omega) (by omega) (fun q4 => ?_) (fun q4 => ?_)
        · rw [if_neg (by omega)] at hR
          refine zk_iconst (pc' := 36) (x := nI 0) hC ⟨dX1_goesByAddress_35, rfl⟩ zc_iconst_0 ?_
          exact zk_zret (pc' := 37) hC hR rfl rfl rfl rfl ⟨dX1_goesByAddress_36, rfl⟩
        · rw [if_pos (by omega)] at hR
          refine zk_iconst (pc' := 32) (x := nI 1) hC ⟨dX1_goesByAddress_31, rfl⟩ zc_iconst_1 ?_
          refine zk_goto (pc' := 35) hC ⟨dX1_goesByAddress_32, rfl⟩ 36 (by decide) ?_
          exact zk_zret (pc' := 37) hC hR rfl rfl rfl rfl ⟨dX1_goesByAddress_36, rfl⟩

def fl_ad (a0 : Nat → Int64) (pa la sl nb ps kd : Nat) : Nat → Int64 := vp_updL (vp_updL (vp_updL (vp_updL (vp_updL (vp_updL (vp_updL (fz_fill a0 (fun _ => lN 0) 128) 0 (lN pa)) 1 (lN la)) 2 (lN sl)) 3 (lN nb)) 4 (lN ps)) 5 (lN kd)) 6 (lN 1)

set_option maxHeartbeats 1000000 in
set_option maxRecDepth 100000 in
theorem c_X1_openAddress (X : zk_X) (I : zk_I) (J : zk_J) {g0 : Nat → Int32} {kd ln ps tg lb sb dn pa sl la : Nat} (hI : I 30 = fl_g g0 kd ln ps tg lb sb dn pa sl la) (hkd : kd ≤ 2) (hpa : pa ≤ 5) (hsl : sl ≤ 4) (hla : la ≤ 4) (hps : ps ≤ 5) (hnb : ln * lb ≤ 128) : zk_M 0 X yX1_openAddress cX1_openAddress 2 none (1, 20) [.ref (zk_ad X 30)] I J none I (zk_u J 33 (fl_ad (J 33) pa la sl (ln * lb) ps kd)) := by
  refine zk_M.intro (by decide) (lv := [some (.ref (zk_ad X 30)), none]) rfl rfl (fun E hC hR => ?_)
  refine zk_iconst (pc' := 1) (x := nI 0) hC ⟨dX1_openAddress_0, rfl⟩ zc_iconst_0 ?_
  refine zk_is1 (pc' := 2) hC ⟨dX1_openAddress_1, rfl⟩ rfl ?_
  refine zk_eqJ (J' := zk_u J 33 (fz_fill (J 33) (fun _ => lN 0) 0)) (by rw [fz_0, zk_u_self]) ?_
  refine zk_up (P := fun i => zk_A 0 X E 2 [some (.ref (zk_ad X 30)), some (.int (nI i))] [] I (zk_u J 33 (fz_fill (J 33) (fun _ => lN 0) i))) 128 ?_ (fun i hi ih => ?_)
  · skip
    refine zk_iload_n (pc' := 3) hC rfl ⟨dX1_openAddress_2, rfl⟩ ?_
    refine zk_sipush (pc' := 6) (x := nI 128) hC ⟨dX1_openAddress_3, rfl⟩ zc_sipush_128 ?_
    refine zk_icmp_geN (pc' := 9) hC ⟨dX1_openAddress_6, rfl⟩ 22 (by decide) (by omega) (by omega) (fun q => ?_) (fun q => ?_)
    · refine zk_aload_n (pc' := 23) hC rfl ⟨dX1_openAddress_22, rfl⟩ ?_
      refine zk_getr (pc' := 26) hC fl_X1_20 (by first | decide | assumption | omega) (by first | rfl | assumption) rfl ⟨dX1_openAddress_23, rfl⟩ ?_
      refine zk_iconst (pc' := 27) (x := nI 0) hC ⟨dX1_openAddress_26, rfl⟩ zc_iconst_0 ?_
      refine zk_aload_n (pc' := 28) hC rfl ⟨dX1_openAddress_27, rfl⟩ ?_
      first | refine zk_getiN (pc' := 31) hC fl_X1_89 (by first | decide | assumption | omega) (by first | rfl | assumption) rfl (by first | assumption | (rw [zk_u_s]; rfl) | (rw [hI]; rfl)) ⟨dX1_openAddress_28, rfl⟩ ?_ | refine zk_geti (pc' := 31) hC fl_X1_89 (by first | decide | assumption | omega) (by first | rfl | assumption) rfl ⟨dX1_openAddress_28, rfl⟩ ?_
      first | refine zk_i2lN (pc' := 32) hC ⟨dX1_openAddress_31, rfl⟩ (by omega) ?_ | refine zk_i2l (pc' := 32) hC ⟨dX1_openAddress_31, rfl⟩ ?_
      first | refine zk_lastU (pc' := 33) hC (by first | decide | assumption | omega) (by first | rfl | assumption) (by omega) (by first | decide | omega) ⟨dX1_openAddress_32, rfl⟩ ?_ | refine zk_lastN (pc' := 33) hC (by first | decide | assumption | omega) (by first | rfl | assumption) (by omega) (by first | decide | omega) ⟨dX1_openAddress_32, rfl⟩ ?_
      refine zk_aload_n (pc' := 34) hC rfl ⟨dX1_openAddress_33, rfl⟩ ?_
      refine zk_getr (pc' := 37) hC fl_X1_20 (by first | decide | assumption | omega) (by first | rfl | assumption) rfl ⟨dX1_openAddress_34, rfl⟩ ?_
      refine zk_iconst (pc' := 38) (x := nI 1) hC ⟨dX1_openAddress_37, rfl⟩ zc_iconst_1 ?_
      refine zk_aload_n (pc' := 39) hC rfl ⟨dX1_openAddress_38, rfl⟩ ?_
      first | refine zk_getiN (pc' := 42) hC fl_X1_83 (by first | decide | assumption | omega) (by first | rfl | assumption) rfl (by first | assumption | (rw [zk_u_s]; rfl) | (rw [hI]; rfl)) ⟨dX1_openAddress_39, rfl⟩ ?_ | refine zk_geti (pc' := 42) hC fl_X1_83 (by first | decide | assumption | omega) (by first | rfl | assumption) rfl ⟨dX1_openAddress_39, rfl⟩ ?_
      first | refine zk_i2lN (pc' := 43) hC ⟨dX1_openAddress_42, rfl⟩ (by omega) ?_ | refine zk_i2l (pc' := 43) hC ⟨dX1_openAddress_42, rfl⟩ ?_
      first | refine zk_lastU (pc' := 44) hC (by first | decide | assumption | omega) (by first | rfl | assumption) (by omega) (by first | decide | omega) ⟨dX1_openAddress_43, rfl⟩ ?_ | refine zk_lastN (pc' := 44) hC (by first | decide | assumption | omega) (by first | rfl | assumption) (by omega) (by first | decide | omega) ⟨dX1_openAddress_43, rfl⟩ ?_
      refine zk_aload_n (pc' := 45) hC rfl ⟨dX1_openAddress_44, rfl⟩ ?_
      refine zk_getr (pc' := 48) hC fl_X1_20 (by first | decide | assumption | omega) (by first | rfl | assumption) rfl ⟨dX1_openAddress_45, rfl⟩ ?_
      refine zk_iconst (pc' := 49) (x := nI 2) hC ⟨dX1_openAddress_48, rfl⟩ zc_iconst_2 ?_
      refine zk_aload_n (pc' := 50) hC rfl ⟨dX1_openAddress_49, rfl⟩ ?_
      first | refine zk_getiN (pc' := 53) hC fl_X1_86 (by first | decide | assumption | omega) (by first | rfl | assumption) rfl (by first | assumption | (rw [zk_u_s]; rfl) | (rw [hI]; rfl)) ⟨dX1_openAddress_50, rfl⟩ ?_ | refine zk_geti (pc' := 53) hC fl_X1_86 (by first | decide | assumption | omega) (by first | rfl | assumption) rfl ⟨dX1_openAddress_50, rfl⟩ ?_
      first | refine zk_i2lN (pc' := 54) hC ⟨dX1_openAddress_53, rfl⟩ (by omega) ?_ | refine zk_i2l (pc' := 54) hC ⟨dX1_openAddress_53, rfl⟩ ?_
      first | refine zk_lastU (pc' := 55) hC (by first | decide | assumption | omega) (by first | rfl | assumption) (by omega) (by first | decide | omega) ⟨dX1_openAddress_54, rfl⟩ ?_ | refine zk_lastN (pc' := 55) hC (by first | decide | assumption | omega) (by first | rfl | assumption) (by omega) (by first | decide | omega) ⟨dX1_openAddress_54, rfl⟩ ?_
      refine zk_aload_n (pc' := 56) hC rfl ⟨dX1_openAddress_55, rfl⟩ ?_
      refine zk_getr (pc' := 59) hC fl_X1_20 (by first | decide | assumption | omega) (by first | rfl | assumption) rfl ⟨dX1_openAddress_56, rfl⟩ ?_
      refine zk_iconst (pc' := 60) (x := nI 3) hC ⟨dX1_openAddress_59, rfl⟩ zc_iconst_3 ?_
      refine zk_aload_n (pc' := 61) hC rfl ⟨dX1_openAddress_60, rfl⟩ ?_
      refine zk_callV1 (pc' := 64) hC ml_X1_64 mi_X1_blocks (c_X1_blocks X I _ hI) (by decide) (by first | decide | assumption | omega) (by first | rfl | assumption) rfl rfl rfl (Nat.le_of_ble_eq_true rfl) ⟨dX1_openAddress_61, rfl⟩ ?_
      first | refine zk_i2lN (pc' := 65) hC ⟨dX1_openAddress_64, rfl⟩ (by omega) ?_ | refine zk_i2l (pc' := 65) hC ⟨dX1_openAddress_64, rfl⟩ ?_
      first | refine zk_lastU (pc' := 66) hC (by first | decide | assumption | omega) (by first | rfl | assumption) (by omega) (by first | decide | omega) ⟨dX1_openAddress_65, rfl⟩ ?_ | refine zk_lastN (pc' := 66) hC (by first | decide | assumption | omega) (by first | rfl | assumption) (by omega) (by first | decide | omega) ⟨dX1_openAddress_65, rfl⟩ ?_
      refine zk_aload_n (pc' := 67) hC rfl ⟨dX1_openAddress_66, rfl⟩ ?_
      refine zk_getr (pc' := 70) hC fl_X1_20 (by first | decide | assumption | omega) (by first | rfl | assumption) rfl ⟨dX1_openAddress_67, rfl⟩ ?_
      refine zk_iconst (pc' := 71) (x := nI 4) hC ⟨dX1_openAddress_70, rfl⟩ zc_iconst_4 ?_
      refine zk_aload_n (pc' := 72) hC rfl ⟨dX1_openAddress_71, rfl⟩ ?_
      first | refine zk_getiN (pc' := 75) hC fl_X1_41 (by first | decide | assumption | omega) (by first | rfl | assumption) rfl (by first | assumption | (rw [zk_u_s]; rfl) | (rw [hI]; rfl)) ⟨dX1_openAddress_72, rfl⟩ ?_ | refine zk_geti (pc' := 75) hC fl_X1_41 (by first | decide | assumption | omega) (by first | rfl | assumption) rfl ⟨dX1_openAddress_72, rfl⟩ ?_
      first | refine zk_i2lN (pc' := 76) hC ⟨dX1_openAddress_75, rfl⟩ (by omega) ?_ | refine zk_i2l (pc' := 76) hC ⟨dX1_openAddress_75, rfl⟩ ?_
      first | refine zk_lastU (pc' := 77) hC (by first | decide | assumption | omega) (by first | rfl | assumption) (by omega) (by first | decide | omega) ⟨dX1_openAddress_76, rfl⟩ ?_ | refine zk_lastN (pc' := 77) hC (by first | decide | assumption | omega) (by first | rfl | assumption) (by omega) (by first | decide | omega) ⟨dX1_openAddress_76, rfl⟩ ?_
      refine zk_aload_n (pc' := 78) hC rfl ⟨dX1_openAddress_77, rfl⟩ ?_
      refine zk_getr (pc' := 81) hC fl_X1_20 (by first | decide | assumption | omega) (by first | rfl | assumption) rfl ⟨dX1_openAddress_78, rfl⟩ ?_
      refine zk_iconst (pc' := 82) (x := nI 5) hC ⟨dX1_openAddress_81, rfl⟩ zc_iconst_5 ?_
      refine zk_aload_n (pc' := 83) hC rfl ⟨dX1_openAddress_82, rfl⟩ ?_
      first | refine zk_getiN (pc' := 86) hC fl_X1_34 (by first | decide | assumption | omega) (by first | rfl | assumption) rfl (by first | assumption | (rw [zk_u_s]; rfl) | (rw [hI]; rfl)) ⟨dX1_openAddress_83, rfl⟩ ?_ | refine zk_geti (pc' := 86) hC fl_X1_34 (by first | decide | assumption | omega) (by first | rfl | assumption) rfl ⟨dX1_openAddress_83, rfl⟩ ?_
      first | refine zk_i2lN (pc' := 87) hC ⟨dX1_openAddress_86, rfl⟩ (by omega) ?_ | refine zk_i2l (pc' := 87) hC ⟨dX1_openAddress_86, rfl⟩ ?_
      first | refine zk_lastU (pc' := 88) hC (by first | decide | assumption | omega) (by first | rfl | assumption) (by omega) (by first | decide | omega) ⟨dX1_openAddress_87, rfl⟩ ?_ | refine zk_lastN (pc' := 88) hC (by first | decide | assumption | omega) (by first | rfl | assumption) (by omega) (by first | decide | omega) ⟨dX1_openAddress_87, rfl⟩ ?_
      refine zk_aload_n (pc' := 89) hC rfl ⟨dX1_openAddress_88, rfl⟩ ?_
      refine zk_getr (pc' := 92) hC fl_X1_20 (by first | decide | assumption | omega) (by first | rfl | assumption) rfl ⟨dX1_openAddress_89, rfl⟩ ?_
      refine zk_bipush (pc' := 94) (x := nI 6) hC ⟨dX1_openAddress_92, rfl⟩ zc_bipush_6 ?_
      refine zk_lconst (pc' := 95) (x := lN 1) hC ⟨dX1_openAddress_94, rfl⟩ rfl ?_
      first | refine zk_lastU (pc' := 96) hC (by first | decide | assumption | omega) (by first | rfl | assumption) (by omega) (by first | decide | omega) ⟨dX1_openAddress_95, rfl⟩ ?_ | refine zk_lastN (pc' := 96) hC (by first | decide | assumption | omega) (by first | rfl | assumption) (by omega) (by first | decide | omega) ⟨dX1_openAddress_95, rfl⟩ ?_
      exact zk_vret (pc' := 97) hC hR rfl rfl rfl ⟨dX1_openAddress_96, rfl⟩
    · omega
  · skip
    refine zk_iload_n (pc' := 3) hC rfl ⟨dX1_openAddress_2, rfl⟩ ?_
    refine zk_sipush (pc' := 6) (x := nI 128) hC ⟨dX1_openAddress_3, rfl⟩ zc_sipush_128 ?_
    refine zk_icmp_geN (pc' := 9) hC ⟨dX1_openAddress_6, rfl⟩ 22 (by decide) (by omega) (by omega) (fun q => ?_) (fun q => ?_)
    · omega
    · refine zk_aload_n (pc' := 10) hC rfl ⟨dX1_openAddress_9, rfl⟩ ?_
      refine zk_getr (pc' := 13) hC fl_X1_20 (by first | decide | assumption | omega) (by first | rfl | assumption) rfl ⟨dX1_openAddress_10, rfl⟩ ?_
      refine zk_iload_n (pc' := 14) hC rfl ⟨dX1_openAddress_13, rfl⟩ ?_
      refine zk_lconst (pc' := 15) (x := lN 0) hC ⟨dX1_openAddress_14, rfl⟩ rfl ?_
      first | refine zk_lastU (pc' := 16) hC (by first | decide | assumption | omega) (by first | rfl | assumption) (by omega) (by first | decide | omega) ⟨dX1_openAddress_15, rfl⟩ ?_ | refine zk_lastN (pc' := 16) hC (by first | decide | assumption | omega) (by first | rfl | assumption) (by omega) (by first | decide | omega) ⟨dX1_openAddress_15, rfl⟩ ?_
      rw [fz_S _ _ i rfl]
      first | refine zk_in1 (pc' := 19) hC ⟨dX1_openAddress_16, rfl⟩ ?_ | refine zk_iincG (pc' := 19) hC ⟨dX1_openAddress_16, rfl⟩ rfl ?_
      refine zk_goto (pc' := 22) hC ⟨dX1_openAddress_19, rfl⟩ 2 (by decide) ?_
      exact ih

def fl_z (J : zk_J) (b : Nat) : zk_J := fun a => if 38 ≤ a ∧ a < 38 + b then fz_fill (J a) (fun _ => lN 0) 128 else J a
theorem fl_z_0 (J : zk_J) : fl_z J 0 = J := by funext a; unfold fl_z; rw [if_neg (by omega)]
theorem fl_z_S (J : zk_J) (b : Nat) : zk_u (fl_z J b) (38 + b) (fz_fill (J (38 + b)) (fun _ => lN 0) 128) = fl_z J (b + 1) := by
  funext a
  unfold zk_u fl_z
  by_cases h : a = 38 + b
  · subst h; rw [if_pos rfl, if_pos (by omega)]
  · rw [if_neg h]
    by_cases h2 : 38 ≤ a ∧ a < 38 + b
    · rw [if_pos h2, if_pos (by omega)]
    · rw [if_neg h2, if_neg (by omega)]
theorem fl_z_n (J : zk_J) (b : Nat) : fl_z J b (38 + b) = J (38 + b) := by unfold fl_z; rw [if_neg (by omega)]

set_option maxHeartbeats 1000000 in
set_option maxRecDepth 100000 in
theorem c_X1_restart (X : zk_X) (I : zk_I) (J : zk_J) {g0 : Nat → Int32} {kd ln ps tg lb sb dn pa sl la : Nat} (hI : I 30 = fl_g g0 kd ln ps tg lb sb dn pa sl la) {k2 l2 p2 mm t2 : Nat} (hpos : fl_poss (nI k2) (nI l2) (nI p2) (nI mm) (nI t2)) (h2 : k2 ≤ 2) (h3 : 1 ≤ l2) (h4 : l2 ≤ 4) (h5 : mm ≤ 128) (h6 : p2 ≤ 5) (h7 : t2 ≤ 128) : zk_M 0 X yX1_restart cX1_restart 8 none (1, 24) [.ref (zk_ad X 30), .int (nI k2), .int (nI l2), .int (nI p2), .int (nI mm), .int (nI t2)] I J none (zk_u I 30 (fl_g g0 k2 l2 p2 t2 (4 * (mm / (4 * l2))) (mm / (4 * l2)) 0 pa sl la)) (fl_z J 128) := by
  refine zk_M.intro (by decide) (lv := [some (.ref (zk_ad X 30)), some (.int (nI k2)), some (.int (nI l2)), some (.int (nI p2)), some (.int (nI mm)), some (.int (nI t2)), none, none]) rfl rfl (fun E hC hR => ?_)
  have hp1 : fl_pi (nI k2) (nI l2) (nI p2) (nI mm) (nI t2) = nI 1 := by rw [fl_pi, if_pos hpos]
  refine zk_iload_n (pc' := 1) hC rfl ⟨dX1_restart_0, rfl⟩ ?_
  refine zk_iload_n (pc' := 2) hC rfl ⟨dX1_restart_1, rfl⟩ ?_
  refine zk_iload_n (pc' := 3) hC rfl ⟨dX1_restart_2, rfl⟩ ?_
  refine zk_iload (pc' := 5) hC rfl ⟨dX1_restart_3, rfl⟩ ?_
  refine zk_iload (pc' := 7) hC rfl ⟨dX1_restart_5, rfl⟩ ?_
  refine zk_callS1 (pc' := 10) hC ml_X1_30 ms_X1_isPossible (c_X1_isPossible X I J (nI k2) (nI l2) (nI p2) (nI mm) (nI t2)) (by decide) rfl rfl (Nat.le_of_ble_eq_true rfl) ⟨dX1_restart_7, rfl⟩ ?_
  rw [hp1]
  refine zk_if_neN (pc' := 13) hC ⟨dX1_restart_10, rfl⟩ 14 (by decide) (by omega) (fun q => ?_) (fun q => ?_)
  · refine zk_eqI (I' := zk_u I 30 (fl_g g0 kd ln ps tg lb sb dn pa sl la)) (by rw [← hI, zk_u_self]) ?_
    refine zk_aload_n (pc' := 15) hC rfl ⟨dX1_restart_14, rfl⟩ ?_
    refine zk_iload_n (pc' := 16) hC rfl ⟨dX1_restart_15, rfl⟩ ?_
    refine zk_puti (pc' := 19) hC fl_X1_34 fp_X1_4 (by first | decide | assumption | omega) (by first | rfl | assumption) rfl rfl rfl ⟨dX1_restart_16, rfl⟩ ?_
    rw [zk_u_s, zk_u_u, fl_p4]
    refine zk_aload_n (pc' := 20) hC rfl ⟨dX1_restart_19, rfl⟩ ?_
    refine zk_iload_n (pc' := 21) hC rfl ⟨dX1_restart_20, rfl⟩ ?_
    refine zk_puti (pc' := 24) hC fl_X1_38 fp_X1_5 (by first | decide | assumption | omega) (by first | rfl | assumption) rfl rfl rfl ⟨dX1_restart_21, rfl⟩ ?_
    rw [zk_u_s, zk_u_u, fl_p5]
    refine zk_aload_n (pc' := 25) hC rfl ⟨dX1_restart_24, rfl⟩ ?_
    refine zk_iload_n (pc' := 26) hC rfl ⟨dX1_restart_25, rfl⟩ ?_
    refine zk_puti (pc' := 29) hC fl_X1_41 fp_X1_6 (by first | decide | assumption | omega) (by first | rfl | assumption) rfl rfl rfl ⟨dX1_restart_26, rfl⟩ ?_
    rw [zk_u_s, zk_u_u, fl_p6]
    refine zk_aload_n (pc' := 30) hC rfl ⟨dX1_restart_29, rfl⟩ ?_
    refine zk_iload (pc' := 32) hC rfl ⟨dX1_restart_30, rfl⟩ ?_
    refine zk_puti (pc' := 35) hC fl_X1_44 fp_X1_7 (by first | decide | assumption | omega) (by first | rfl | assumption) rfl rfl rfl ⟨dX1_restart_32, rfl⟩ ?_
    rw [zk_u_s, zk_u_u, fl_p7]
    refine zk_aload_n (pc' := 36) hC rfl ⟨dX1_restart_35, rfl⟩ ?_
    refine zk_iload (pc' := 38) hC rfl ⟨dX1_restart_36, rfl⟩ ?_
    refine zk_iconst (pc' := 39) (x := nI 4) hC ⟨dX1_restart_38, rfl⟩ zc_iconst_4 ?_
    refine zk_iload_n (pc' := 40) hC rfl ⟨dX1_restart_39, rfl⟩ ?_
    first | refine zk_imulN (pc' := 41) hC ⟨dX1_restart_40, rfl⟩ ?_ | refine zk_imul (pc' := 41) hC ⟨dX1_restart_40, rfl⟩ ?_
    first | refine zk_idivN (pc' := 42) hC ⟨dX1_restart_41, rfl⟩ (by omega) (by omega) (by omega) ?_ | refine zk_idiv (pc' := 42) hC ⟨dX1_restart_41, rfl⟩ (by first | assumption | decide) ?_
    refine zk_puti (pc' := 45) hC fl_X1_47 fp_X1_9 (by first | decide | assumption | omega) (by first | rfl | assumption) rfl rfl rfl ⟨dX1_restart_42, rfl⟩ ?_
    rw [zk_u_s, zk_u_u, fl_p9]
    refine zk_aload_n (pc' := 46) hC rfl ⟨dX1_restart_45, rfl⟩ ?_
    refine zk_iconst (pc' := 47) (x := nI 4) hC ⟨dX1_restart_46, rfl⟩ zc_iconst_4 ?_
    refine zk_aload_n (pc' := 48) hC rfl ⟨dX1_restart_47, rfl⟩ ?_
    first | refine zk_getiN (pc' := 51) hC fl_X1_47 (by first | decide | assumption | omega) (by first | rfl | assumption) rfl (by first | assumption | (rw [zk_u_s]; rfl) | (rw [hI]; rfl)) ⟨dX1_restart_48, rfl⟩ ?_ | refine zk_geti (pc' := 51) hC fl_X1_47 (by first | decide | assumption | omega) (by first | rfl | assumption) rfl ⟨dX1_restart_48, rfl⟩ ?_
    first | refine zk_imulN (pc' := 52) hC ⟨dX1_restart_51, rfl⟩ ?_ | refine zk_imul (pc' := 52) hC ⟨dX1_restart_51, rfl⟩ ?_
    refine zk_puti (pc' := 55) hC fl_X1_50 fp_X1_8 (by first | decide | assumption | omega) (by first | rfl | assumption) rfl rfl rfl ⟨dX1_restart_52, rfl⟩ ?_
    rw [zk_u_s, zk_u_u, fl_p8]
    refine zk_aload_n (pc' := 56) hC rfl ⟨dX1_restart_55, rfl⟩ ?_
    refine zk_iconst (pc' := 57) (x := nI 0) hC ⟨dX1_restart_56, rfl⟩ zc_iconst_0 ?_
    refine zk_puti (pc' := 60) hC fl_X1_53 fp_X1_10 (by first | decide | assumption | omega) (by first | rfl | assumption) rfl rfl rfl ⟨dX1_restart_57, rfl⟩ ?_
    rw [zk_u_s, zk_u_u, fl_p10]
    generalize hI2 : zk_u I 30 _ = I2 at hR ⊢
    refine zk_iconst (pc' := 61) (x := nI 0) hC ⟨dX1_restart_60, rfl⟩ zc_iconst_0 ?_
    refine zk_is6 (pc' := 63) hC ⟨dX1_restart_61, rfl⟩ rfl ?_
    refine zk_eqJ (J' := fl_z J 0) (fl_z_0 J).symm ?_
    refine zk_up (P := fun b => zk_A 0 X E 63 [some (.ref (zk_ad X 30)), some (.int (nI k2)), some (.int (nI l2)), some (.int (nI p2)), some (.int (nI mm)), some (.int (nI t2)), some (.int (nI b)), none] [] I2 (fl_z J b)) 128 ?_ (fun b hb ih => ?_)
    · skip
      refine zk_iload (pc' := 65) hC rfl ⟨dX1_restart_63, rfl⟩ ?_
      refine zk_sipush (pc' := 68) (x := nI 128) hC ⟨dX1_restart_65, rfl⟩ zc_sipush_128 ?_
      refine zk_icmp_geN (pc' := 71) hC ⟨dX1_restart_68, rfl⟩ 105 (by decide) (by omega) (by omega) (fun q2 => ?_) (fun q2 => ?_)
      · exact zk_vret (pc' := 106) hC hR rfl rfl rfl ⟨dX1_restart_105, rfl⟩
      · omega
    · skip
      obtain ⟨hr1, hr2⟩ := fl_row hb
      refine zk_iload (pc' := 65) hC rfl ⟨dX1_restart_63, rfl⟩ ?_
      refine zk_sipush (pc' := 68) (x := nI 128) hC ⟨dX1_restart_65, rfl⟩ zc_sipush_128 ?_
      refine zk_icmp_geN (pc' := 71) hC ⟨dX1_restart_68, rfl⟩ 105 (by decide) (by omega) (by omega) (fun q2 => ?_) (fun q2 => ?_)
      · omega
      · refine zk_iconst (pc' := 72) (x := nI 0) hC ⟨dX1_restart_71, rfl⟩ zc_iconst_0 ?_
        refine zk_is7 (pc' := 74) hC ⟨dX1_restart_72, rfl⟩ rfl ?_
        refine zk_eqJ (J' := zk_u (fl_z J b) (38 + b) (fz_fill (J (38 + b)) (fun _ => lN 0) 0)) (by rw [fz_0, ← fl_z_n J b, zk_u_self]) ?_
        refine zk_up (P := fun k => zk_A 0 X E 74 [some (.ref (zk_ad X 30)), some (.int (nI k2)), some (.int (nI l2)), some (.int (nI p2)), some (.int (nI mm)), some (.int (nI t2)), some (.int (nI b)), some (.int (nI k))] [] I2 (zk_u (fl_z J b) (38 + b) (fz_fill (J (38 + b)) (fun _ => lN 0) k))) 128 ?_ (fun k hk ihk => ?_)
        · skip
          refine zk_iload (pc' := 76) hC rfl ⟨dX1_restart_74, rfl⟩ ?_
          refine zk_sipush (pc' := 79) (x := nI 128) hC ⟨dX1_restart_76, rfl⟩ zc_sipush_128 ?_
          refine zk_icmp_geN (pc' := 82) hC ⟨dX1_restart_79, rfl⟩ 99 (by decide) (by omega) (by omega) (fun q3 => ?_) (fun q3 => ?_)
          · rw [fl_z_S]
            refine zk_fg7 ?_
            first | refine zk_in6 (pc' := 102) hC ⟨dX1_restart_99, rfl⟩ ?_ | refine zk_iincG (pc' := 102) hC ⟨dX1_restart_99, rfl⟩ rfl ?_
            refine zk_goto (pc' := 105) hC ⟨dX1_restart_102, rfl⟩ 63 (by decide) ?_
            exact ih
          · omega
        · skip
          refine zk_iload (pc' := 76) hC rfl ⟨dX1_restart_74, rfl⟩ ?_
          refine zk_sipush (pc' := 79) (x := nI 128) hC ⟨dX1_restart_76, rfl⟩ zc_sipush_128 ?_
          refine zk_icmp_geN (pc' := 82) hC ⟨dX1_restart_79, rfl⟩ 99 (by decide) (by omega) (by omega) (fun q3 => ?_) (fun q3 => ?_)
          · omega
          · refine zk_aload_n (pc' := 83) hC rfl ⟨dX1_restart_82, rfl⟩ ?_
            refine zk_getr (pc' := 86) hC fl_X1_11 (by first | decide | assumption | omega) (by first | rfl | assumption) rfl ⟨dX1_restart_83, rfl⟩ ?_
            refine zk_iload (pc' := 88) hC rfl ⟨dX1_restart_86, rfl⟩ ?_
            refine zk_aaldN (pc' := 89) hC (by first | decide | assumption | omega) (by first | rfl | assumption) rfl rfl (by omega) (by first | decide | omega) ⟨dX1_restart_88, rfl⟩ ?_
            refine zk_iload (pc' := 91) hC rfl ⟨dX1_restart_89, rfl⟩ ?_
            refine zk_lconst (pc' := 92) (x := lN 0) hC ⟨dX1_restart_91, rfl⟩ rfl ?_
            first | refine zk_lastU (pc' := 93) hC (by first | decide | assumption | omega) (by first | rfl | assumption) (by omega) (by first | decide | omega) ⟨dX1_restart_92, rfl⟩ ?_ | refine zk_lastN (pc' := 93) hC (by first | decide | assumption | omega) (by first | rfl | assumption) (by omega) (by first | decide | omega) ⟨dX1_restart_92, rfl⟩ ?_
            rw [fz_S _ _ k rfl]
            first | refine zk_in7 (pc' := 96) hC ⟨dX1_restart_93, rfl⟩ ?_ | refine zk_iincG (pc' := 96) hC ⟨dX1_restart_93, rfl⟩ rfl ?_
            refine zk_goto (pc' := 99) hC ⟨dX1_restart_96, rfl⟩ 74 (by decide) ?_
            exact ihk
  · omega

