/-! SIMULATION: hash, longHash, tag -/
theorem md_b_z {key msg : Nat → Int32} {ks sz i : Nat} (h : md_all ks sz ≤ i) : md_b key msg ks sz i = nI 0 := by
  unfold md_all at h
  unfold md_b
  by_cases e : ks = 0
  · rw [if_pos e] at h ⊢
    rw [if_neg (by omega)]
  · rw [if_neg e] at h ⊢
    rw [if_neg (by omega), if_neg (by omega)]
theorem hs_T_1 {I : zk_I} {J : zk_J} {p : Nat × (Nat → Int32)} {e n : Nat} : (hs_T I J p e n).1 = hz_gv (hz_dg p.2 p.1 e n J 27) (0, I 26) n 8 := by simp only [hs_T]
theorem hs_T_J {I : zk_I} {J : zk_J} {p : Nat × (Nat → Int32)} {e n : Nat} : (hs_T I J p e n).2.2 = hz_dg p.2 p.1 e n J := by simp only [hs_T]
theorem md_hs_8 {I : zk_I} {J : zk_J} {g : Nat → Int32} {f cf e n : Nat} {k : Int32} : (md_hs I J g f cf k e n).1 8 = md_cp (I 8) 0 (md_ob (md_dg (md_b (md_kf I k e) (md_mf I 0 f cf) e cf) e cf n J 5)) n := by
  unfold md_hs
  dsimp only
  rw [md_HI_8, zk_u_n (by decide), mdm_o (by decide) (by decide)]
theorem md_hs_0 {I : zk_I} {J : zk_J} {g : Nat → Int32} {f cf e n : Nat} {k : Int32} : (md_hs I J g f cf k e n).1 0 = g := by
  unfold md_hs
  dsimp only
  rw [md_HI_0]
theorem md_hs_o {I : zk_I} {J : zk_J} {g : Nat → Int32} {f cf e n a : Nat} {k : Int32} (h0 : a ≠ 0) (h3 : a ≠ 3) (h4 : a ≠ 4) (h8 : a ≠ 8) : (md_hs I J g f cf k e n).1 a = I a := by
  unfold md_hs
  dsimp only
  rw [md_HI_o h0 h8, zk_u_n h3, mdm_o h0 h4]
theorem md_hs_J {I : zk_I} {J : zk_J} {g : Nat → Int32} {f cf e n : Nat} {k : Int32} : (md_hs I J g f cf k e n).2 = md_dg (md_b (md_kf I k e) (md_mf I 0 f cf) e cf) e cf n J := by simp only [md_hs]
theorem md_L_row {I : zk_I} {J : zk_J} {g g64 : Nat → Int32} {sz n : Nat} : (md_L I J g g64 sz n).1 0 = g ∨ (md_L I J g g64 sz n).1 0 = g64 := by
  unfold md_L
  split
  · exact Or.inl md_l0_0
  · cases hz_turns n with
    | zero => rw [md_lr]; exact Or.inl md_l0_0
    | succ t => rw [md_lr]; exact Or.inr md_l1_0
theorem md_gv_o {S : zk_I} {t n a : Nat} (h1 : a ≠ 1) (h2 : a ≠ 2) : md_gv S t n a = S a := by
  unfold md_gv
  rw [zk_u_n h1, zk_u_n h2]
theorem rg_give_o {I : zk_I} {t a : Nat} {T : hz_T} (h1 : a ≠ 2 + t) (h2 : a ≠ 10 + t) (h3 : ¬ (23 ≤ a ∧ a ≤ 26)) : rg_give I t T a = I a := by
  unfold rg_give
  rw [bz_set_o h1 h2, hz_I_o h3]
section SN
variable {I : zk_I} {J : zk_J} {Ir : zk_I} {Jr : zk_J}
theorem sm_R_give {t n : Nat} {T : hz_T} {S1 : zk_I} (h : sm_R I Ir) (ht : t < 8) (hn : n ≤ 200) (ho : qx_e T.1 n (S1 8)) (h1 : S1 1 = Ir 1) (h2 : S1 2 = Ir 2) : sm_R (rg_give I t T) (md_gv S1 t n) := fun q hq => by
  have hE := qx_epa (n := 200) (b := S1 8) (qx_e0 (f := I (10 + t)) (g := fun _ => nI 0)) n (by omega) ho.2
  by_cases e : q = t
  · subst e
    refine ⟨n, hn, ?_, ?_, ?_⟩
    · unfold rg_give
      rw [bz_set_c, ho.1, hE.1, Nat.zero_add]
    · unfold md_gv
      rw [zk_u_s, pk_us]
    · unfold rg_give md_gv
      rw [bz_set_f (by omega), zk_u_n (by decide), zk_u_s, ho.1]
      refine ⟨rfl, fun i hi => ?_⟩
      have := hE.2 i (by omega)
      show (bz_pa 200 (0, I (10 + q)) T.1.2 n).2 i &&& nI 255 = md_cp (S1 2) (200 * q) (S1 8) n (200 * q + i)
      rw [this, md_cp_in (by omega) (by omega), md_cp_in (by omega) (by omega)]
      congr 1
      omega
  · obtain ⟨c', k1, k2, k3, k4⟩ := h q hq
    refine ⟨c', k1, ?_, ?_, ?_⟩
    · rw [rg_give_o (by omega) (by omega) (by omega)]; exact k2
    · unfold md_gv
      rw [zk_u_s, pk_un e, h1]; exact k3
    · rw [rg_give_o (by omega) (by omega) (by omega)]
      refine ⟨rfl, fun i hi => ?_⟩
      rw [k4.2 i hi]
      unfold md_gv
      rw [zk_u_n (by decide), zk_u_s]
      show Ir 2 (200 * q + i) = md_cp (S1 2) (200 * t) (S1 8) n (200 * q + i)
      rw [md_cp_out (by omega), h2]
theorem qs_R_of {J' Jr' : zk_J} (h : qs_R J (md_of Jr)) (hJ : ∀ a, a = 32 ∨ 38 ≤ a → J' a = J a) (hJr : Jr' 9 = Jr 9) : qs_R J' (md_of Jr') := by
  refine ⟨fun b hb k hk => ?_, ?_⟩
  · rw [hJ _ (by omega)]
    show J (38 + b) k = Jr' 9 (128 * b + k)
    rw [hJr]
    exact h.1 b hb k hk
  · rw [hJ _ (Or.inl rfl)]
    exact h.2
theorem sm_give {t n : Nat} {T : hz_T} {S1 : zk_I} {J' Jr' : zk_J} (h : Sim I J Ir Jr) (ht : t < 8) (hn : n ≤ 200) (ho : qx_e T.1 n (S1 8)) (h1 : S1 1 = Ir 1) (h2 : S1 2 = Ir 2) (hN : sm_N I S1) (hJ : ∀ a, a = 32 ∨ 38 ≤ a → J' a = J a) (hJr : Jr' 9 = Jr 9) : Sim (rg_give I t T) J' (md_gv S1 t n) Jr' :=
  ⟨sm_R_give h.1 ht hn ho h1 h2, sm_N_of hN (rg_give_o (by omega) (by omega) (by omega)) (md_gv_o (by decide) (by decide)), qs_R_of h.2.2.1 hJ hJr, by rw [rg_give_o (by omega) (by omega) (by omega)]; exact h.2.2.2⟩
theorem sm_key (h : Sim I J Ir Jr) (k : Int32) : ∃ e, I (rg_p k) 1 = nI e ∧ e ≤ rg_n k ∧ e ≤ 200 ∧ (is_r k → Ir 1 k.toNatClampNeg = nI e) ∧ (¬ is_r k → e = 0) ∧ ∀ i, i < e → I (rg_a k) i &&& nI 255 = md_rb Ir k.toNatClampNeg i := by
  by_cases hk : is_r k
  · obtain ⟨r, hr, rfl⟩ := is_r_of hk
    obtain ⟨c, k1, k2, k3, k4⟩ := h.1 r hr
    obtain ⟨r1, r2, r3⟩ := rg_nI hr
    rw [r1, r2, r3, nI_clamp (by omega)]
    exact ⟨c, k2, k1, k1, fun _ => k3, fun z => absurd hk z, k4.2⟩
  · refine ⟨0, ?_, Nat.zero_le _, Nat.zero_le _, fun z => absurd z hk, fun _ => rfl, fun i hi => absurd hi (Nat.not_lt_zero i)⟩
    unfold rg_p
    rw [if_neg hk]
    exact h.2.2.2
set_option maxRecDepth 100000 in
theorem sm_msg {ka e f cf : Nat} {k : Int32} (he64 : e ≤ 64) (hcf : cf ≤ 200) (hk : ∀ i, i < e → I ka i &&& nI 255 = md_rb Ir k.toNatClampNeg i) (hf : ∀ i, i < cf → I (10 + f) i &&& nI 255 = md_rb Ir f i) : qx_e (hs_M2 I ka e f cf) (md_all e cf) (md_b (md_kf Ir k e) (md_mf Ir 0 f cf) e cf) := by
  unfold hs_M2 hs_M1
  by_cases e0 : e = 0
  · rw [if_pos e0]
    have := qx_epa (n := 1028) (f := I (10 + f)) (b := md_rb Ir f) (qx_e0 (f := I 24) (g := fun _ => nI 0)) cf (by omega) hf
    refine qx_ec this (by unfold md_all; rw [if_pos e0]; omega) (fun i hi => ?_)
    unfold md_b md_mf
    rw [if_pos e0, if_pos (by omega), md_cp_in (by omega) (by omega), md_cp_in (by omega) (by omega)]
  · rw [if_neg e0]
    have a1 := qx_epa (n := 1028) (f := I ka) (b := md_rb Ir k.toNatClampNeg) (qx_e0 (f := I 24) (g := fun _ => nI 0)) e (by omega) hk
    have a2 := qx_ezs a1 (128 - e) (by omega)
    have a3 := qx_epa (n := 1028) (f := I (10 + f)) (b := md_rb Ir f) a2 cf (by omega) hf
    refine qx_ec a3 (by unfold md_all; rw [if_neg e0]; omega) (fun i hi => ?_)
    unfold md_b md_mf md_kf
    rw [if_neg e0]
    by_cases i1 : i < 128
    · rw [if_pos i1, md_cp_out (by omega)]
      by_cases i2 : i < e
      · rw [if_pos i2, fz_in i2, md_cp_out (by omega), md_cp_in (by omega) (by omega)]
        exact congrArg _ (Nat.sub_zero i)
      · rw [md_cp_in (by omega) (by omega), if_neg i2]
    · rw [if_neg i1, md_cp_in (by omega) (by omega), if_pos (by omega), md_cp_in (by omega) (by omega)]
      congr 1
      omega
theorem sm_hash (h : Sim I J Ir Jr) (t f k n : Int32) : sm_op yX4_hash cX4_hash 6 (5, 118) yX5_hash cX5_hash 6 (4, 102) (some .int) [.int t, .int f, .int k, .int n] I J Ir Jr := by
  obtain ⟨h1, ⟨g0, gr, th, sz, bg, kd, ln, ps, tg, sb, dn, pa, sl, la, n1, n2, n3⟩, h3, h4⟩ := id h
  obtain ⟨e, he, hen, he2, her, he0, heb⟩ := sm_key h k
  by_cases hb : is_r t ∧ is_r f ∧ (k = -1 ∨ is_r k) ∧ ¬ n < nI 1 ∧ ¬ nI 64 < n ∧ e ≤ 64
  · obtain ⟨b1, b2, hk, b3, b4, he64⟩ := hb
    obtain ⟨t', ht, rfl⟩ := is_r_of b1
    obtain ⟨f', hf, rfl⟩ := is_r_of b2
    obtain ⟨n', hn1, hn2, rfl⟩ := sm_rng b3 b4 (by decide) (by decide)
    obtain ⟨cf, hc2, hc, hcr, hce⟩ := h.1 f' hf
    refine ⟨_, _, _, _, _, fun X => c_X4_hash_ok X I J k ht hf hk hn1 hn2 hc hc2 he hen he64, fun X => c_X5_hash_ok X Ir Jr n2 k ht hf hk hn1 hn2 hcr hc2 her (fun z => he0 (by rw [z]; exact is_r_m1)) he64, rfl, ?_⟩
    have h0 := sm_0 h
    have hm := md_0_o (I := Ir) (a := 2) (by decide)
    have hp := sm_msg (I := I) (Ir := md_0 Ir) (ka := rg_a k) (f := f') (k := k) he64 hc2 (fun i hi => by unfold md_rb; rw [hm]; exact heb i hi) (fun i hi => by unfold md_rb; rw [hm]; exact hce.2 i hi)
    have hh := qx_dg (J := J) (Jr := Jr) (n := n') (ks := e) (sz := cf) (fun i hi => hp.2 i (by rw [← hp.1]; exact hi)) (fun i hi => md_b_z (by rw [← hp.1]; exact hi)) hp.1 he64 hn2
    refine sm_give h0 ht (by omega) ?_ (md_hs_o (by decide) (by decide) (by decide) (by decide)) (md_hs_o (by decide) (by decide) (by decide) (by decide)) ⟨g0, gr, 0, cf, bg, kd, ln, ps, tg, sb, dn, pa, sl, la, n1, md_hs_0, n3⟩ (fun a ha => by rw [hs_T_J]; exact hz_dg_o (by omega)) (by rw [md_hs_J]; exact md_dg_o (by decide))
    rw [hs_T_1, md_hs_8]
    generalize hz_dg (hs_M2 I (rg_a k) e f' cf).2 (hs_M2 I (rg_a k) e f' cf).1 e n' J 27 = H at hh ⊢
    generalize md_dg (md_b (md_kf (md_0 Ir) k e) (md_mf (md_0 Ir) 0 f' cf) e cf) e cf n' Jr 5 = Hr at hh ⊢
    have := qx_gv hh (qx_e0 (f := I 26) (g := fun _ => nI 0)) (n := n') hn2 (by omega) 8 (by decide)
    refine qx_ec this (by omega) (fun i hi => ?_)
    rw [md_cp_in (by omega) (by omega), md_cp_in (by omega) (by omega)]
  · exact ⟨_, _, _, _, _, fun X => c_X4_hash_bad X I J t f k n he he2 hb, fun X => c_X5_hash_bad X Ir Jr t f k n her (fun z => he0 (by rw [z]; exact is_r_m1)) he2 hb, rfl, sm_0 h⟩
theorem sm_long {t n sz : Nat} {p : Nat × (Nat → Int32)} {Im : zk_I} {Jm : zk_J} {g g64 : Nat → Int32} (h : Sim I J Ir Jr) (ht : t < 8) (hn1 : 1 ≤ n) (hn : n ≤ 200) (hp : qx_e p sz (fz_fill (Im 4) (md_ib n) 4)) (h1 : Im 1 = Ir 1) (h2 : Im 2 = Ir 2) (hJ9 : Jm 9 = Jr 9) (hg : ∀ S : zk_I, (S 0 = g ∨ S 0 = g64) → sm_N I S) : Sim (rg_give I t (hz_LL I J p n)) (hz_LL I J p n).2.2 (md_gv (md_L Im Jm g g64 sz n).1 t n) (md_L Im Jm g g64 sz n).2 :=
  sm_give h ht hn (qx_LL hp hn1 (by omega)) (by rw [md_L_I (by decide) (by decide) (by decide)]; exact h1) (by rw [md_L_I (by decide) (by decide) (by decide)]; exact h2) (hg _ md_L_row) (fun a ha => hz_LL_J (by omega)) (by rw [md_L_J (by decide)]; exact hJ9)
theorem sm_longHash (h : Sim I J Ir Jr) (t f n : Int32) : sm_op yX4_longHash cX4_longHash 4 (5, 118) yX5_longHash cX5_longHash 4 (5, 125) (some .int) [.int t, .int f, .int n] I J Ir Jr := by
  obtain ⟨h1, ⟨g0, gr, th, sz, bg, kd, ln, ps, tg, sb, dn, pa, sl, la, n1, n2, n3⟩, h3, h4⟩ := id h
  by_cases hb : is_r t ∧ is_r f ∧ ¬ n < nI 1 ∧ ¬ nI 200 < n
  · obtain ⟨b1, b2, b3, b4⟩ := hb
    obtain ⟨t', ht, rfl⟩ := is_r_of b1
    obtain ⟨f', hf, rfl⟩ := is_r_of b2
    obtain ⟨n', hn1, hn2, rfl⟩ := sm_rng b3 b4 (by decide) (by decide)
    obtain ⟨cf, hc2, hc, hcr, hce⟩ := h.1 f' hf
    refine ⟨_, _, _, _, _, fun X => c_X4_longHash_ok X I J ht hf hn1 hn2 hc hc2, fun X => c_X5_longHash_ok X Ir Jr n2 ht hf hn1 hn2 hcr hc2, rfl, ?_⟩
    have h0 := sm_0 h
    have hm := md_0_o (I := Ir) (a := 2) (by decide)
    unfold md_lh
    refine sm_long h0 ht hn1 hn2 ?_ (mdm_o (by decide) (by decide)) (mdm_o (by decide) (by decide)) rfl (fun S hS => ?_)
    · rw [mdm_4]
      unfold lh_M
      have a1 := qx_epn (x := lN n') (n := 1028) (qx_e0 (f := I 24) (g := fun _ => nI 0)) 4 (by decide) (by decide)
      have a2 := qx_epa (n := 1028) (f := I (10 + f')) (b := md_rb (md_0 Ir) f') a1 cf (by omega) (fun i hi => by unfold md_rb; rw [hm]; exact hce.2 i hi)
      refine qx_ec a2 (by omega) (fun i hi => ?_)
      unfold md_mf
      by_cases i4 : i < 4
      · rw [md_cp_out (by omega), md_cp_in (by omega) (by omega), fz_in i4, Nat.sub_zero, qx_ib (by omega) i4]
      · rw [md_cp_in (by omega) (by omega), fz_at (by omega), md_cp_in (by omega) (by omega)]
    · rcases hS with hS | hS
      · exact ⟨g0, gr, 0, _, bg, kd, ln, ps, tg, sb, dn, pa, sl, la, n1, hS, n3⟩
      · exact ⟨g0, gr, 0, _, bg, kd, ln, ps, tg, sb, dn, pa, sl, la, n1, hS, n3⟩
  · exact ⟨_, _, _, _, _, fun X => c_X4_longHash_bad X I J t f n hb, fun X => c_X5_longHash_bad X Ir Jr t f n hb, rfl, sm_0 h⟩
theorem sm_x {sb ln : Nat} (h : qs_R J (md_of Jr)) (hnb : ln * (4 * sb) ≤ 128) (hsb : 1 ≤ sb) {k : Nat} (hk : k < 128) : ∀ i, i ≤ ln → fl_x J (4 * sb) k i = md_tx (Jr 9) sb k i
  | 0, _ => rfl
  | i + 1, hi => by
    have hm : (i + 1) * (4 * sb) ≤ ln * (4 * sb) := Nat.mul_le_mul_right _ hi
    have hm0 : 1 * (4 * sb) ≤ (i + 1) * (4 * sb) := Nat.mul_le_mul_right _ (by omega)
    rw [fl_x, md_tx, sm_x h hnb hsb hk i (by omega), Nat.add_comm 1 i, Nat.mul_comm (4 * sb) (i + 1)]
    congr 1
    exact h.1 _ (by omega) k hk
theorem sm_tm {lb ln tg : Nat} {p0 : Nat × (Nat → Int32)} {f : Nat → Int32} {w : Nat → Int64} (hp : qx_e p0 4 (fz_fill f (md_ib tg) 4)) (hw : ∀ k, k < 128 → fl_x J lb k ln = w k) : ∀ k, k ≤ 128 → qx_e (fl_pl J lb ln p0 k) (4 + 8 * k) (fz_fill (md_tm f w k) (md_ib tg) 4)
  | 0, _ => hp
  | k + 1, hk => by
    have a1 := qx_epn (x := w k) (n := 1028) (sm_tm hp hw k (by omega)) 8 (Nat.le_refl _) (by omega)
    rw [fl_pl, hw k (by omega), md_tm]
    refine qx_ec a1 (by omega) (fun i hi => ?_)
    by_cases i4 : i < 4
    · rw [md_cp_out (by omega), fz_in i4, fz_in i4]
    · rw [fz_at (by omega)]
      by_cases i8 : i < 4 + 8 * k
      · rw [md_cp_out (by omega), md_cp_out (by omega), fz_at (by omega)]
      · rw [md_cp_in (by omega) hi, md_cp_in (by omega) hi]
theorem sm_tagsim {t sb ln ps kd tg dn pa sl la : Nat} {g0 gr : Nat → Int32} {I0 : zk_I} (h : Sim I J I0 Jr) (ht : t < 8) (n1 : I 30 = fl_g g0 kd ln ps tg (4 * sb) sb dn pa sl la) (hw : fl_is kd ln ps tg (4 * sb) sb) (htg : 4 ≤ tg) (hdn : dn ≤ ps * 4 * ln) : Sim (rg_give I t (tg_T I J (4 * sb) ln tg)) (tg_T I J (4 * sb) ln tg).2.2 (md_gv (md_tg I0 Jr (md_g gr 0 0 (4 + 8 * 128) 1 kd ln ps tg sb dn) (md_g gr 0 0 64 1 kd ln ps tg sb dn) sb ln tg).1 t tg) (md_tg I0 Jr (md_g gr 0 0 (4 + 8 * 128) 1 kd ln ps tg sb dn) (md_g gr 0 0 64 1 kd ln ps tg sb dn) sb ln tg).2 := by
  obtain ⟨w1, w2, w3, w4, w5, w6, w7, w8, w9, w10⟩ := id hw
  unfold tg_T md_tg
  refine sm_long h ht (by omega) (by omega) ?_ (mdm_o (by decide) (by decide)) (mdm_o (by decide) (by decide)) (zk_u_n (by decide)) (fun S hS => ?_)
  · rw [mdm_4]
    unfold tg_M
    have a1 := qx_epn (x := lN tg) (n := 1028) (qx_e0 (f := I 24) (g := fun _ => nI 0)) 4 (by decide) (by decide)
    refine sm_tm (k := 128) (qx_ec a1 rfl (fun i hi => ?_)) (fun k hk => ?_) (Nat.le_refl _)
    · have hi : i < 4 := hi
      rw [md_cp_in (by omega) (by omega), fz_in hi, Nat.sub_zero, qx_ib (by omega) hi]
    · unfold md_tn
      rw [fz_in hk]
      exact sm_x h.2.2.1 w10 (by omega) hk ln (Nat.le_refl _)
  · rcases hS with hS | hS
    · exact ⟨g0, gr, 0, _, 1, kd, ln, ps, tg, sb, dn, pa, sl, la, n1, hS, Or.inr ⟨rfl, hw, htg, hdn⟩⟩
    · exact ⟨g0, gr, 0, _, 1, kd, ln, ps, tg, sb, dn, pa, sl, la, n1, hS, Or.inr ⟨rfl, hw, htg, hdn⟩⟩
theorem sm_seg {ps ln : Nat} : ps * 4 * ln = 4 * ln * ps := by rw [Nat.mul_comm ps 4, Nat.mul_assoc, Nat.mul_comm ps ln, Nat.mul_assoc]
theorem sm_tag (h : Sim I J Ir Jr) (t : Int32) : sm_op yX4_tag cX4_tag 2 (5, 118) yX5_tag cX5_tag 2 (6, 147) (some .int) [.int t] I J Ir Jr := by
  obtain ⟨h1, ⟨g0, gr, th, sz, bg, kd, ln, ps, tg, sb, dn, pa, sl, la, n1, n2, n3⟩, h3, h4⟩ := id h
  by_cases hb : is_r t
  · obtain ⟨t', ht, rfl⟩ := is_r_of hb
    rcases n3 with ⟨rfl, rfl, rfl, rfl, rfl, rfl, rfl⟩ | ⟨rfl, hw, htg, hdn⟩
    · exact ⟨_, _, _, _, _, fun X => c_X4_tag_ref X I J n1 ht (by decide) (by decide) (Or.inl rfl), fun X => c_X5_tag_ref X Ir Jr n2 ht (by decide) (by decide) (by decide) (Or.inl rfl), rfl, sm_0 h⟩
    · obtain ⟨w1, w2, w3, w4, w5, w6, w7, w8, w9, w10⟩ := id hw
      have hsg : ps * 4 * ln ≤ 80 := by
        have : ps * 4 * ln ≤ 20 * 4 := Nat.mul_le_mul (by omega) (by omega)
        omega
      have hsg2 : 4 * ln * ps ≤ 80 := by rw [← sm_seg]; exact hsg
      by_cases hd : dn = ps * 4 * ln
      · refine ⟨_, _, _, _, _, fun X => c_X4_tag_ok X I J n1 ht w2 w3 (by omega) w10 (by omega) w6 hsg hd, fun X => c_X5_tag_ok X Ir Jr n2 ht (by omega) (by rw [Nat.mul_comm]; exact w10) w3 (by omega) w6 hsg2 (by rw [hd]; exact sm_seg), rfl, ?_⟩
        exact sm_tagsim (sm_0 h) ht n1 hw htg hdn
      · exact ⟨_, _, _, _, _, fun X => c_X4_tag_ref X I J n1 ht w3 hsg (Or.inr (by omega)), fun X => c_X5_tag_ref X Ir Jr n2 ht (by decide) hsg2 (by omega) (Or.inr (by rw [← sm_seg]; omega)), rfl, sm_0 h⟩
  · exact ⟨_, _, _, _, _, fun X => c_X4_tag_bad X I J t hb, fun X => c_X5_tag_bad X Ir Jr t hb, rfl, sm_0 h⟩
end SN
