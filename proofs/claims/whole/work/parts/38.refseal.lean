/-! THE REFERENCE: seal -/
def mb_E (I : zk_I) (J : zk_J) (g0 : Nat → Int32) (k2 l2 p2 mm t2 e1 e2 e3 e4 : Nat) (pw st sc dt : Int32) : zk_I × zk_J :=
  mb (mb_s (md_0 I) J (md_g g0 0 0 (mb_P (md_0 I) k2 l2 p2 mm t2 e1 e2 e3 e4 pw st sc dt).2 1 k2 l2 p2 t2 (mm / (4 * l2)) 0) (mb_P (md_0 I) k2 l2 p2 mm t2 e1 e2 e3 e4 pw st sc dt)) (md_g g0 0 0 76 1 k2 l2 p2 t2 (mm / (4 * l2)) 0) (md_g g0 0 0 64 1 k2 l2 p2 t2 (mm / (4 * l2)) 0) (mm / (4 * l2)) (2 * l2)
theorem mb_E_0 {I : zk_I} {J : zk_J} {g0 : Nat → Int32} {k2 l2 p2 mm t2 e1 e2 e3 e4 : Nat} {pw st sc dt : Int32} (h : 1 ≤ l2) : (mb_E I J g0 k2 l2 p2 mm t2 e1 e2 e3 e4 pw st sc dt).1 0 = md_g g0 0 0 64 1 k2 l2 p2 t2 (mm / (4 * l2)) 0 := by
  obtain ⟨q, hq⟩ : ∃ q, 2 * l2 = q + 1 := ⟨2 * l2 - 1, by omega⟩
  unfold mb_E
  rw [hq, mb]
  exact mb_1_g
def ms_I (s : zk_I × zk_J) (g0 : Nat → Int32) (kd ln ps tg sc : Nat) : zk_I := zk_u s.1 0 (md_g g0 0 0 64 1 kd ln ps tg sc (0 + min 1000 (ps * 4 * ln - 0)))
def ms_J (s : zk_I × zk_J) (kd ln ps sc : Nat) : zk_J := mf_J s.2 kd ln ps sc 0 (min 1000 (ps * 4 * ln - 0))
def ms_T (s : zk_I × zk_J) (g0 : Nat → Int32) (kd ln ps tg sc : Nat) : zk_I × zk_J := md_tg (ms_I s g0 kd ln ps tg sc) (ms_J s kd ln ps sc) (md_g g0 0 0 (4 + 8 * 128) 1 kd ln ps tg sc (0 + min 1000 (ps * 4 * ln - 0))) (md_g g0 0 0 64 1 kd ln ps tg sc (0 + min 1000 (ps * 4 * ln - 0))) sc ln tg
def ms_S (s : zk_I × zk_J) (g0 : Nat → Int32) (t kd ln ps tg sc : Nat) : zk_I × zk_J := (md_gv (ms_T s g0 kd ln ps tg sc).1 t tg, (ms_T s g0 kd ln ps tg sc).2)

set_option maxHeartbeats 1000000 in
set_option maxRecDepth 100000 in
theorem c_X5_seal_bad1 (X : zk_X) (I : zk_I) (J : zk_J) (t kd ln ps mm tg pw st : Int32) (hbad : ¬ is_r t) : zk_M 1 X yX5_seal cX5_seal 9 ((some .int)) (8, 201) [.ref (zk_ad X 0), .int t, .int kd, .int ln, .int ps, .int mm, .int tg, .int pw, .int st] I J (some (.int (-2))) (md_0 I) J := by
  refine zk_M.intro (by decide) (lv := [some (.ref (zk_ad X 0)), some (.int t), some (.int kd), some (.int ln), some (.int ps), some (.int mm), some (.int tg), some (.int pw), some (.int st)]) rfl rfl (fun E hC hR => ?_)
  refine zk_aload_n (pc' := 1) hC rfl ⟨dX5_seal_0, rfl⟩ ?_
  refine zk_iconst (pc' := 2) (x := nI 0) hC ⟨dX5_seal_1, rfl⟩ zc_iconst_0 ?_
  refine zk_puti (pc' := 5) hC fl_X5_50 fp_X5_0 (by first | decide | assumption | omega) (by first | rfl | assumption) rfl rfl rfl ⟨dX5_seal_2, rfl⟩ ?_
  change zk_A 1 X E 5 _ _ (md_0 I) J
  refine zk_iload_n (pc' := 6) hC rfl ⟨dX5_seal_5, rfl⟩ ?_
  refine zk_callS1 (pc' := 9) hC ml_X5_58 ms_X5_isRegister (c_X5_isRegister X _ J t) (by decide) rfl rfl (Nat.le_of_ble_eq_true rfl) ⟨dX5_seal_6, rfl⟩ ?_
  rw [if_neg hbad]
  refine zk_if_neN (pc' := 12) hC ⟨dX5_seal_9, rfl⟩ 15 (by decide) (by omega) (fun q => ?_) (fun q => ?_)
  · omega
  · refine zk_bipush (pc' := 14) (x := (-2 : Int32)) hC ⟨dX5_seal_12, rfl⟩ zc_bipush_m2 ?_
    exact zk_iret (pc' := 15) hC hR rfl rfl rfl ⟨dX5_seal_14, rfl⟩

set_option maxHeartbeats 1000000 in
set_option maxRecDepth 100000 in
theorem c_X5_seal_bad2 (X : zk_X) (I : zk_I) (J : zk_J) (t kd ln ps mm tg pw st : Int32) {e : Nat} (ht : is_r t) (he : is_r st → I 1 st.toNatClampNeg = nI e) (he2 : e ≤ 200) (hbad : ¬ (fl_poss kd ln ps mm tg ∧ is_r pw ∧ ((-1 : Int32) = -1 ∨ is_r (-1)) ∧ ((-1 : Int32) = -1 ∨ is_r (-1)) ∧ is_r st ∧ 8 ≤ e)) : zk_M 1 X yX5_seal cX5_seal 9 ((some .int)) (8, 201) [.ref (zk_ad X 0), .int t, .int kd, .int ln, .int ps, .int mm, .int tg, .int pw, .int st] I J (some (.int (-2))) (md_0 (md_0 I)) J := by
  refine zk_M.intro (by decide) (lv := [some (.ref (zk_ad X 0)), some (.int t), some (.int kd), some (.int ln), some (.int ps), some (.int mm), some (.int tg), some (.int pw), some (.int st)]) rfl rfl (fun E hC hR => ?_)
  refine zk_aload_n (pc' := 1) hC rfl ⟨dX5_seal_0, rfl⟩ ?_
  refine zk_iconst (pc' := 2) (x := nI 0) hC ⟨dX5_seal_1, rfl⟩ zc_iconst_0 ?_
  refine zk_puti (pc' := 5) hC fl_X5_50 fp_X5_0 (by first | decide | assumption | omega) (by first | rfl | assumption) rfl rfl rfl ⟨dX5_seal_2, rfl⟩ ?_
  change zk_A 1 X E 5 _ _ (md_0 I) J
  refine zk_iload_n (pc' := 6) hC rfl ⟨dX5_seal_5, rfl⟩ ?_
  refine zk_callS1 (pc' := 9) hC ml_X5_58 ms_X5_isRegister (c_X5_isRegister X _ J t) (by decide) rfl rfl (Nat.le_of_ble_eq_true rfl) ⟨dX5_seal_6, rfl⟩ ?_
  rw [if_pos ht]
  refine zk_if_neN (pc' := 12) hC ⟨dX5_seal_9, rfl⟩ 15 (by decide) (by omega) (fun q => ?_) (fun q => ?_)
  · refine zk_aload_n (pc' := 16) hC rfl ⟨dX5_seal_15, rfl⟩ ?_
    refine zk_iload_n (pc' := 17) hC rfl ⟨dX5_seal_16, rfl⟩ ?_
    refine zk_iload_n (pc' := 18) hC rfl ⟨dX5_seal_17, rfl⟩ ?_
    refine zk_iload (pc' := 20) hC rfl ⟨dX5_seal_18, rfl⟩ ?_
    refine zk_iload (pc' := 22) hC rfl ⟨dX5_seal_20, rfl⟩ ?_
    refine zk_iload (pc' := 24) hC rfl ⟨dX5_seal_22, rfl⟩ ?_
    refine zk_iload (pc' := 26) hC rfl ⟨dX5_seal_24, rfl⟩ ?_
    refine zk_iload (pc' := 28) hC rfl ⟨dX5_seal_26, rfl⟩ ?_
    refine zk_iconst (pc' := 29) (x := (-1 : Int32)) hC ⟨dX5_seal_28, rfl⟩ zc_iconst_m1 ?_
    refine zk_iconst (pc' := 30) (x := (-1 : Int32)) hC ⟨dX5_seal_29, rfl⟩ zc_iconst_m1 ?_
    refine zk_callV1 (pc' := 33) hC ml_X5_234 mi_X5_begin (c_X5_begin_bad X _ J kd ln ps mm tg pw st (-1) (-1) (fun h => by rw [md_0_o (by decide)]; exact he h) he2 hbad) (by decide) (by first | decide | assumption | omega) (by first | rfl | assumption) rfl rfl rfl (Nat.le_of_ble_eq_true rfl) ⟨dX5_seal_30, rfl⟩ ?_
    refine zk_bipush (pc' := 35) (x := (-2 : Int32)) hC ⟨dX5_seal_33, rfl⟩ zc_bipush_m2 ?_
    refine zk_icmp_ne (pc' := 38) hC ⟨dX5_seal_35, rfl⟩ 41 (by decide) (fun q2 => ?_) (fun q2 => ?_)
    · exact absurd rfl q2
    · refine zk_bipush (pc' := 40) (x := (-2 : Int32)) hC ⟨dX5_seal_38, rfl⟩ zc_bipush_m2 ?_
      exact zk_iret (pc' := 41) hC hR rfl rfl rfl ⟨dX5_seal_40, rfl⟩
  · omega

set_option maxHeartbeats 1000000 in
set_option maxRecDepth 100000 in
theorem c_X5_seal_ok (X : zk_X) (I : zk_I) (J : zk_J) {g0 : Nat → Int32} {th sz bg kd ln ps tg sc dn : Nat} (hI : I 0 = md_g g0 th 0 sz bg kd ln ps tg sc dn) {t k2 l2 p2 mm t2 w2 s2 e1 e2 : Nat} (ht : t < 8) (h2 : k2 ≤ 2) (h3 : 1 ≤ l2) (h4 : l2 ≤ 4) (h5 : 8 * l2 ≤ mm) (h6 : mm ≤ 128) (h7 : p2 ≤ 5) (h8 : t2 ≤ 128) (h9 : 1 ≤ p2) (h10 : 4 ≤ t2) (hw2 : w2 < 8) (hs2 : s2 < 8) (he1 : I 1 w2 = nI e1) (he1n : e1 ≤ 200) (he2 : I 1 s2 = nI e2) (he2n : e2 ≤ 200) (he8 : 8 ≤ e2) : zk_M 1 X yX5_seal cX5_seal 9 ((some .int)) (8, 201) [.ref (zk_ad X 0), .int (nI t), .int (nI k2), .int (nI l2), .int (nI p2), .int (nI mm), .int (nI t2), .int (nI w2), .int (nI s2)] I J (some (.int (nI t2))) (ms_S (mb_E (md_0 I) J g0 k2 l2 p2 mm t2 e1 e2 0 0 (nI w2) (nI s2) (-1) (-1)) g0 t k2 l2 p2 t2 (mm / (4 * l2))).1 (ms_S (mb_E (md_0 I) J g0 k2 l2 p2 mm t2 e1 e2 0 0 (nI w2) (nI s2) (-1) (-1)) g0 t k2 l2 p2 t2 (mm / (4 * l2))).2 := by
  refine zk_M.intro (by decide) (lv := [some (.ref (zk_ad X 0)), some (.int (nI t)), some (.int (nI k2)), some (.int (nI l2)), some (.int (nI p2)), some (.int (nI mm)), some (.int (nI t2)), some (.int (nI w2)), some (.int (nI s2))]) rfl rfl (fun E hC hR => ?_)
  have hI0 := md_0_g hI
  have hsb := fl_sb h3 h4 h5 h6
  have hseg : p2 * 4 * l2 ≤ 80 := by
    have : p2 * 4 * l2 ≤ 20 * 4 := Nat.mul_le_mul (by omega) (by omega)
    omega
  refine zk_aload_n (pc' := 1) hC rfl ⟨dX5_seal_0, rfl⟩ ?_
  refine zk_iconst (pc' := 2) (x := nI 0) hC ⟨dX5_seal_1, rfl⟩ zc_iconst_0 ?_
  refine zk_puti (pc' := 5) hC fl_X5_50 fp_X5_0 (by first | decide | assumption | omega) (by first | rfl | assumption) rfl rfl rfl ⟨dX5_seal_2, rfl⟩ ?_
  change zk_A 1 X E 5 _ _ (md_0 I) J
  refine zk_iload_n (pc' := 6) hC rfl ⟨dX5_seal_5, rfl⟩ ?_
  refine zk_callS1 (pc' := 9) hC ml_X5_58 ms_X5_isRegister (c_X5_isRegister X _ J (nI t)) (by decide) rfl rfl (Nat.le_of_ble_eq_true rfl) ⟨dX5_seal_6, rfl⟩ ?_
  rw [if_pos (is_r_nI ht)]
  refine zk_if_neN (pc' := 12) hC ⟨dX5_seal_9, rfl⟩ 15 (by decide) (by omega) (fun q => ?_) (fun q => ?_)
  · refine zk_aload_n (pc' := 16) hC rfl ⟨dX5_seal_15, rfl⟩ ?_
    refine zk_iload_n (pc' := 17) hC rfl ⟨dX5_seal_16, rfl⟩ ?_
    refine zk_iload_n (pc' := 18) hC rfl ⟨dX5_seal_17, rfl⟩ ?_
    refine zk_iload (pc' := 20) hC rfl ⟨dX5_seal_18, rfl⟩ ?_
    refine zk_iload (pc' := 22) hC rfl ⟨dX5_seal_20, rfl⟩ ?_
    refine zk_iload (pc' := 24) hC rfl ⟨dX5_seal_22, rfl⟩ ?_
    refine zk_iload (pc' := 26) hC rfl ⟨dX5_seal_24, rfl⟩ ?_
    refine zk_iload (pc' := 28) hC rfl ⟨dX5_seal_26, rfl⟩ ?_
    refine zk_iconst (pc' := 29) (x := (-1 : Int32)) hC ⟨dX5_seal_28, rfl⟩ zc_iconst_m1 ?_
    refine zk_iconst (pc' := 30) (x := (-1 : Int32)) hC ⟨dX5_seal_29, rfl⟩ zc_iconst_m1 ?_
    refine zk_callV1 (pc' := 33) hC ml_X5_234 mi_X5_begin (c_X5_begin_ok X _ J hI0 (-1) (-1) h2 h3 h4 h5 h6 h7 h8 h9 h10 hw2 hs2 (Or.inl rfl) (Or.inl rfl) (by rw [md_0_o (by decide)]; exact he1) he1n (by rw [md_0_o (by decide)]; exact he2) he2n he8 (e3 := 0) (fun h => absurd h is_r_m1) (fun _ => rfl) (Nat.zero_le _) (e4 := 0) (fun h => absurd h is_r_m1) (fun _ => rfl) (Nat.zero_le _)) (by decide) (by first | decide | assumption | omega) (by first | rfl | assumption) rfl rfl rfl (Nat.le_of_ble_eq_true rfl) ⟨dX5_seal_30, rfl⟩ ?_
    change zk_A 1 X E 33 _ _ (mb_E (md_0 I) J g0 k2 l2 p2 mm t2 e1 e2 0 0 (nI w2) (nI s2) (-1) (-1)).1 (mb_E (md_0 I) J g0 k2 l2 p2 mm t2 e1 e2 0 0 (nI w2) (nI s2) (-1) (-1)).2
    have hI3 := mb_E_0 (I := md_0 I) (J := J) (g0 := g0) (k2 := k2) (l2 := l2) (p2 := p2) (mm := mm) (t2 := t2) (e1 := e1) (e2 := e2) (e3 := 0) (e4 := 0) (pw := nI w2) (st := nI s2) (sc := -1) (dt := -1) h3
    generalize mb_E (md_0 I) J g0 k2 l2 p2 mm t2 e1 e2 0 0 (nI w2) (nI s2) (-1) (-1) = S at hI3 hR ⊢
    obtain ⟨I3, J3⟩ := S
    unfold ms_S ms_T ms_I ms_J at hR
    dsimp only at hI3 hR ⊢
    generalize mm / (4 * l2) = s at hsb hI3 hR ⊢
    have hnb : 4 * s * l2 ≤ 128 := by rw [Nat.mul_comm]; exact hsb.2.2
    have hwi : fl_is k2 l2 p2 t2 (4 * s) s := ⟨h2, h3, h4, h9, h7, h8, rfl, hsb.1, hsb.2.1, hsb.2.2⟩
    refine zk_bipush (pc' := 35) (x := (-2 : Int32)) hC ⟨dX5_seal_33, rfl⟩ zc_bipush_m2 ?_
    refine zk_icmp_ne (pc' := 38) hC ⟨dX5_seal_35, rfl⟩ 41 (by decide) (fun q2 => ?_) (fun q2 => ?_)
    · refine zk_aload_n (pc' := 42) hC rfl ⟨dX5_seal_41, rfl⟩ ?_
      refine zk_sipush (pc' := 45) (x := nI 1000) hC ⟨dX5_seal_42, rfl⟩ zc_sipush_1000 ?_
      refine zk_callV1 (pc' := 48) hC ml_X5_228 mi_X5_fillSome (c_X5_fillSome X I3 J3 hI3 (n := 1000) (by decide) hwi (Nat.zero_le _)) (by decide) (by first | decide | assumption | omega) (by first | rfl | assumption) rfl rfl rfl (Nat.le_of_ble_eq_true rfl) ⟨dX5_seal_45, rfl⟩ ?_
      have hI4 : zk_u I3 0 (md_g g0 0 0 64 1 k2 l2 p2 t2 s (0 + min 1000 (p2 * 4 * l2 - 0))) 0 = md_g g0 0 0 64 1 k2 l2 p2 t2 s (0 + min 1000 (p2 * 4 * l2 - 0)) := zk_u_s
      generalize zk_u I3 0 (md_g g0 0 0 64 1 k2 l2 p2 t2 s (0 + min 1000 (p2 * 4 * l2 - 0))) = I4 at hI4 hR ⊢
      generalize mf_J J3 k2 l2 p2 s 0 (min 1000 (p2 * 4 * l2 - 0)) = J4 at hR ⊢
      generalize 0 + min 1000 (p2 * 4 * l2 - 0) = dn4 at hI4 hR ⊢
      refine zk_pop (pc' := 49) hC ⟨dX5_seal_48, rfl⟩ rfl ?_
      refine zk_aload_n (pc' := 50) hC rfl ⟨dX5_seal_49, rfl⟩ ?_
      refine zk_callV0 (pc' := 53) hC ml_X5_231 mi_X5_makeTag (c_X5_makeTag X _ _ hI4 (by omega) hnb h4 (by omega) h8) (by decide) (by first | decide | assumption | omega) (by first | rfl | assumption) rfl rfl rfl (Nat.le_of_ble_eq_true rfl) ⟨dX5_seal_50, rfl⟩ ?_
      have hTt : (md_tg I4 J4 (md_g g0 0 0 (4 + 8 * 128) 1 k2 l2 p2 t2 s dn4) (md_g g0 0 0 64 1 k2 l2 p2 t2 s dn4) s l2 t2).1 0 15 = nI t2 := md_L_0 rfl rfl
      generalize md_tg I4 J4 (md_g g0 0 0 (4 + 8 * 128) 1 k2 l2 p2 t2 s dn4) (md_g g0 0 0 64 1 k2 l2 p2 t2 s dn4) s l2 t2 = S at hR hTt ⊢
      refine zk_aload_n (pc' := 54) hC rfl ⟨dX5_seal_53, rfl⟩ ?_
      refine zk_iload_n (pc' := 55) hC rfl ⟨dX5_seal_54, rfl⟩ ?_
      refine zk_aload_n (pc' := 56) hC rfl ⟨dX5_seal_55, rfl⟩ ?_
      first | refine zk_getiN (pc' := 59) hC fl_X5_174 (by first | decide | assumption | omega) (by first | rfl | assumption) rfl (by first | assumption | (rw [zk_u_s]; rfl) | (rw [hI]; rfl)) ⟨dX5_seal_56, rfl⟩ ?_ | refine zk_geti (pc' := 59) hC fl_X5_174 (by first | decide | assumption | omega) (by first | rfl | assumption) rfl ⟨dX5_seal_56, rfl⟩ ?_
      refine zk_callV0 (pc' := 62) hC ml_X5_152 mi_X5_give (c_X5_give X _ _ ht (by omega)) (by decide) (by first | decide | assumption | omega) (by first | rfl | assumption) rfl rfl rfl (Nat.le_of_ble_eq_true rfl) ⟨dX5_seal_59, rfl⟩ ?_
      change zk_A 1 X E 62 _ _ (md_gv S.1 t t2) S.2
      have hTt2 : md_gv S.1 t t2 0 15 = nI t2 := by rw [md_gv, zk_u_n (by decide), zk_u_n (by decide)]; exact hTt
      refine zk_aload_n (pc' := 63) hC rfl ⟨dX5_seal_62, rfl⟩ ?_
      first | refine zk_getiN (pc' := 66) hC fl_X5_174 (by first | decide | assumption | omega) (by first | rfl | assumption) rfl (by first | assumption | (rw [zk_u_s]; rfl) | (rw [hI]; rfl)) ⟨dX5_seal_63, rfl⟩ ?_ | refine zk_geti (pc' := 66) hC fl_X5_174 (by first | decide | assumption | omega) (by first | rfl | assumption) rfl ⟨dX5_seal_63, rfl⟩ ?_
      exact zk_iret (pc' := 67) hC hR rfl rfl rfl ⟨dX5_seal_66, rfl⟩
    · exact absurd q2 (nI_m2 (by omega))
  · omega

