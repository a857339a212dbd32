/-! SIMULATION: begin, seal -/
section SB
variable {I : zk_I} {J : zk_J} {Ir : zk_I} {Jr : zk_J}
theorem bg_I2_o {I1 : zk_I} {T : hz_T} {a : Nat} (h1 : a ≠ 20) (h2 : a ≠ 21) (h3 : ¬ (23 ≤ a ∧ a ≤ 26)) : bg_I2 I1 T a = I1 a := by
  unfold bg_I2
  rw [bz_set_o h1 h2, hz_I_o h3]
theorem bg_S_o {g0 : Nat → Int32} {k2 l2 p2 mm t2 pa sl la e1 e2 e3 e4 a : Nat} {pw st sc dt : Int32} (h1 : a ≠ 20) (h2 : a ≠ 21) (h3 : ¬ (23 ≤ a ∧ a ≤ 26)) (h4 : a ≠ 30) : (bg_S I J g0 k2 l2 p2 mm t2 pa sl la e1 e2 e3 e4 pw st sc dt).1 a = I a := by
  unfold bg_S
  rw [lf_o h3]
  dsimp only
  rw [bg_I2_o h1 h2 h3]
  exact zk_u_n h4
theorem bg_S_30 {g0 : Nat → Int32} {k2 l2 p2 mm t2 pa sl la e1 e2 e3 e4 : Nat} {pw st sc dt : Int32} : (bg_S I J g0 k2 l2 p2 mm t2 pa sl la e1 e2 e3 e4 pw st sc dt).1 30 = fl_g g0 k2 l2 p2 t2 (4 * (mm / (4 * l2))) (mm / (4 * l2)) 0 pa sl la := by
  unfold bg_S
  rw [lf_o (by omega)]
  dsimp only
  rw [bg_I2_o (by decide) (by decide) (by omega)]
  exact zk_u_s
theorem mb_s_8 {g : Nat → Int32} {P : md_P} : (mb_s I J g P).1 8 = md_cp (I 8) 0 (md_ob (md_dg (md_b (I 3) P.1 0 P.2) 0 P.2 64 J 5)) 64 := by
  unfold mb_s
  dsimp only
  rw [md_HI_8, mdm_o (by decide) (by decide)]
theorem mb_s_o {g : Nat → Int32} {P : md_P} {a : Nat} (h0 : a ≠ 0) (h4 : a ≠ 4) (h8 : a ≠ 8) : (mb_s I J g P).1 a = I a := by
  unfold mb_s
  dsimp only
  rw [md_HI_o h0 h8, mdm_o h0 h4]
theorem mb_s_13 {g : Nat → Int32} {P : md_P} {k : Nat} (hk : k < 64) : (mb_s I J g P).2 13 k = ((mb_s I J g P).1 8 k).toInt64 := by
  unfold mb_s mb_J
  dsimp only
  rw [zk_u_n (by decide), zk_u_s, fz_in hk]
theorem mb_s_9 {g : Nat → Int32} {P : md_P} {k : Nat} (hk : k < 16384) : (mb_s I J g P).2 9 k = lN 0 := by
  unfold mb_s mb_J
  dsimp only
  rw [zk_u_s, fz_in hk]
theorem sm_beginsim {g0 gr : Nat → Int32} {k2 l2 p2 mm t2 pa sl la e1 e2 e3 e4 : Nat} {pw st sc dt : Int32} (h : Sim I J Ir Jr) (h2 : k2 ≤ 2) (h3 : 1 ≤ l2) (h4 : l2 ≤ 4) (h5 : 8 * l2 ≤ mm) (h6 : mm ≤ 128) (h7 : p2 ≤ 5) (h8 : t2 ≤ 128) (h9 : 1 ≤ p2) (h10 : 4 ≤ t2) (f1 : e1 ≤ 200) (f2 : e2 ≤ 200) (f3 : e3 ≤ 200) (f4 : e4 ≤ 200)
    (b1 : ∀ i, i < e1 → I (rg_a pw) i &&& nI 255 = md_rb Ir pw.toNatClampNeg i) (b2 : ∀ i, i < e2 → I (rg_a st) i &&& nI 255 = md_rb Ir st.toNatClampNeg i) (b3 : ∀ i, i < e3 → I (rg_a sc) i &&& nI 255 = md_rb Ir sc.toNatClampNeg i) (b4 : ∀ i, i < e4 → I (rg_a dt) i &&& nI 255 = md_rb Ir dt.toNatClampNeg i) :
    Sim (bg_S I J g0 k2 l2 p2 mm t2 pa sl la e1 e2 e3 e4 pw st sc dt).1 (bg_S I J g0 k2 l2 p2 mm t2 pa sl la e1 e2 e3 e4 pw st sc dt).2 (mb_E Ir Jr gr k2 l2 p2 mm t2 e1 e2 e3 e4 pw st sc dt).1 (mb_E Ir Jr gr k2 l2 p2 mm t2 e1 e2 e3 e4 pw st sc dt).2 := by
  have hsb := fl_sb h3 h4 h5 h6
  have hrb : ∀ x, md_rb (md_0 Ir) x = md_rb Ir x := fun x => by unfold md_rb; rw [md_0_o (by decide)]
  have m0 : qx_e (0, I 24) 0 ((md_0 Ir 4, 0) : md_P).1 ∧ ((md_0 Ir 4, 0) : md_P).2 = 0 := ⟨qx_e0, rfl⟩
  have m1 := qb_4 m0 (lN l2) (by decide)
  have m2 := qb_4 m1 (lN t2) (by decide)
  have m3 := qb_4 m2 (lN mm) (by decide)
  have m4 := qb_4 m3 (lN p2) (by decide)
  have m5 := qb_4 m4 19 (by decide)
  have m6 := qb_4 m5 (lN k2) (by decide)
  have m7 := qb_o (f := I (rg_a pw)) (g := md_rb (md_0 Ir) pw.toNatClampNeg) m6 (by rw [hrb]; exact b1) (by omega)
  have m8 := qb_o (f := I (rg_a st)) (g := md_rb (md_0 Ir) st.toNatClampNeg) m7 (by rw [hrb]; exact b2) (by omega)
  have m9 := qb_o (f := I (rg_a sc)) (g := md_rb (md_0 Ir) sc.toNatClampNeg) m8 (by rw [hrb]; exact b3) (by omega)
  have m10 := qb_o (f := I (rg_a dt)) (g := md_rb (md_0 Ir) dt.toNatClampNeg) m9 (by rw [hrb]; exact b4) (by omega)
  have hp : qx_e (bg_M I (fl_set (0, I 24) l2 t2 mm p2 k2) e1 e2 e3 e4 pw st sc dt) (mb_P (md_0 Ir) k2 l2 p2 mm t2 e1 e2 e3 e4 pw st sc dt).2 (mb_P (md_0 Ir) k2 l2 p2 mm t2 e1 e2 e3 e4 pw st sc dt).1 := by
    unfold bg_M fl_set mb_P
    rw [m10.2]
    exact m10.1
  clear m0 m1 m2 m3 m4 m5 m6 m7 m8 m9 m10
  have hN : sm_N (bg_S I J g0 k2 l2 p2 mm t2 pa sl la e1 e2 e3 e4 pw st sc dt).1 (mb_E Ir Jr gr k2 l2 p2 mm t2 e1 e2 e3 e4 pw st sc dt).1 := ⟨g0, gr, 0, 64, 1, k2, l2, p2, t2, mm / (4 * l2), 0, pa, sl, la, bg_S_30, mb_E_0 h3, Or.inr ⟨rfl, ⟨h2, h3, h4, h9, h7, h8, rfl, hsb.1, hsb.2.1, hsb.2.2⟩, h10, Nat.zero_le _⟩⟩
  have hRr : sm_R (bg_S I J g0 k2 l2 p2 mm t2 pa sl la e1 e2 e3 e4 pw st sc dt).1 (mb_E Ir Jr gr k2 l2 p2 mm t2 e1 e2 e3 e4 pw st sc dt).1 := by
    refine sm_R_of h.1 (fun a a1 a2 => bg_S_o (by omega) (by omega) (by omega) (by omega)) ?_ ?_
    · unfold mb_E
      rw [mb_o (by decide) (by decide) (by decide), mb_s_o (by decide) (by decide) (by decide), md_0_o (by decide)]
    · unfold mb_E
      rw [mb_o (by decide) (by decide) (by decide), mb_s_o (by decide) (by decide) (by decide), md_0_o (by decide)]
  refine ⟨hRr, hN, ?_, by rw [bg_S_o (by decide) (by decide) (by omega) (by decide)]; exact h.2.2.2⟩
  clear hN hRr
  unfold bg_S mb_E bg_T
  generalize bg_M I (fl_set (0, I 24) l2 t2 mm p2 k2) e1 e2 e3 e4 pw st sc dt = MM at hp ⊢
  generalize mb_P (md_0 Ir) k2 l2 p2 mm t2 e1 e2 e3 e4 pw st sc dt = PP at hp ⊢
  have hh := qx_hash (J := fl_z J 128) (Jr := Jr) (key := md_0 Ir 3) hp (show 64 ≤ 64 by decide)
  have hT1 := hs_T_1 (I := I) (J := fl_z J 128) (p := MM) (e := 0) (n := 64)
  have hTJ := hs_T_J (I := I) (J := fl_z J 128) (p := MM) (e := 0) (n := 64)
  have hTe : qx_e (hs_T I (fl_z J 128) MM 0 64).1 64 (md_ob (md_dg (md_b (md_0 Ir 3) PP.1 0 PP.2) 0 PP.2 64 Jr 5)) := by
    rw [hT1]
    generalize hz_dg MM.2 MM.1 0 64 (fl_z J 128) 27 = H at hh ⊢
    generalize md_dg (md_b (md_0 Ir 3) PP.1 0 PP.2) 0 PP.2 64 Jr 5 = Hr at hh ⊢
    have := qx_gv hh (qx_e0 (f := I 26) (g := fun _ => nI 0)) (n := 64) (by decide) (by decide) 8 (by decide)
    refine qx_ec this rfl (fun i hi => ?_)
    have hi : i < 64 := hi
    rw [md_cp_in (by omega) (by omega)]
    exact congrArg _ (Nat.sub_zero i)
  have hJo : ∀ a, a = 32 ∨ 38 ≤ a → (hs_T I (fl_z J 128) MM 0 64).2.2 a = fl_z J 128 a := fun a ha => by rw [hTJ]; exact hz_dg_o (by omega)
  generalize hs_T I (fl_z J 128) MM 0 64 = T at hTe hJo ⊢
  have h8' := mb_s_8 (I := md_0 Ir) (J := Jr) (g := md_g gr 0 0 PP.2 1 k2 l2 p2 t2 (mm / (4 * l2)) 0) (P := PP)
  generalize md_dg (md_b (md_0 Ir 3) PP.1 0 PP.2) 0 PP.2 64 Jr 5 = Hr at hTe h8'
  have h13 : ∀ k, k < 64 → (mb_s (md_0 Ir) Jr (md_g gr 0 0 PP.2 1 k2 l2 p2 t2 (mm / (4 * l2)) 0) PP).2 13 k = (md_ob Hr k).toInt64 := fun k hk => by
    rw [mb_s_13 hk, h8', md_cp_in (by omega) (by omega)]
    exact congrArg (fun z => (md_ob Hr z).toInt64) (Nat.sub_zero k)
  have h9' : ∀ k, k < 16384 → (mb_s (md_0 Ir) Jr (md_g gr 0 0 PP.2 1 k2 l2 p2 t2 (mm / (4 * l2)) 0) PP).2 9 k = lN 0 := fun k hk => mb_s_9 hk
  generalize mb_s (md_0 Ir) Jr (md_g gr 0 0 PP.2 1 k2 l2 p2 t2 (mm / (4 * l2)) 0) PP = r0 at h13 h9' ⊢
  have h0 : qb_I (md_ob Hr) (4 * (mm / (4 * l2))) 0 (bg_I2 (bg_I1 I g0 k2 l2 p2 mm t2 pa sl la) T, T.2.2) r0 := by
    refine ⟨?_, h13, ⟨fun b hb k hk => ?_, ?_⟩, fun b hb _ k hk => h9' _ (by omega)⟩
    · unfold bg_I2
      dsimp only
      rw [bz_set_f (by decide), hTe.1]
      have := qx_epa (n := 64) (b := md_ob Hr) (qx_e0 (f := bg_I1 I g0 k2 l2 p2 mm t2 pa sl la 21) (g := fun _ => nI 0)) 64 (by decide) hTe.2
      refine ⟨rfl, fun i hi => ?_⟩
      have hi2 := this.2 i hi
      rw [md_cp_in (by omega) (by omega)] at hi2
      rw [Nat.sub_zero] at hi2
      generalize bz_pa 64 (0, bg_I1 I g0 k2 l2 p2 mm t2 pa sl la 21) T.1.2 64 = Z at hi2 ⊢
      exact hi2
    · dsimp only
      rw [hJo _ (by omega)]
      show fl_z J 128 (38 + b) k = r0.2 9 (128 * b + k)
      rw [h9' _ (by omega)]
      unfold fl_z
      rw [if_pos (by omega), fz_in hk]
    · dsimp only
      rw [hJo _ (Or.inl rfl)]
      unfold fl_z
      rw [if_neg (by omega)]
      exact h.2.2.1.2
  exact (qb_loop rfl (by omega) hsb.2.2 h0 (2 * l2) (Nat.le_refl _)).2.2.1
/-- the numbers of a possible filling -/
theorem sm_poss {kd ln ps mm tg : Int32} (h : fl_poss kd ln ps mm tg) : ∃ k2 l2 p2 m2 t2 : Nat, kd = nI k2 ∧ ln = nI l2 ∧ ps = nI p2 ∧ mm = nI m2 ∧ tg = nI t2 ∧ k2 ≤ 2 ∧ 1 ≤ l2 ∧ l2 ≤ 4 ∧ 8 * l2 ≤ m2 ∧ m2 ≤ 128 ∧ p2 ≤ 5 ∧ t2 ≤ 128 ∧ 1 ≤ p2 ∧ 4 ≤ t2 := by
  obtain ⟨a1, a2, a3, a4, a5, a6, a7, a8, a9, a10⟩ := h
  obtain ⟨k2, -, k, rfl⟩ := sm_rng (a := 0) (by rw [nI_0]; exact a1) a2 (by decide) (by decide)
  obtain ⟨l2, l, l', rfl⟩ := sm_rng a3 a4 (by decide) (by decide)
  obtain ⟨p2, p, p', rfl⟩ := sm_rng a5 a6 (by decide) (by decide)
  rw [pk_mul] at a7
  obtain ⟨m2, m, m', rfl⟩ := sm_rng a7 a8 (by omega) (by decide)
  obtain ⟨t2, t, t', rfl⟩ := sm_rng a9 a10 (by decide) (by decide)
  exact ⟨k2, l2, p2, m2, t2, rfl, rfl, rfl, rfl, rfl, k, l, l', m, m', p', t', p, t⟩
theorem sm_begin (h : Sim I J Ir Jr) (kd ln ps mm tg pw st sc dt : Int32) : sm_op yX4_begin cX4_begin 10 (6, 140) yX5_begin cX5_begin 13 (5, 125) (some .int) [.int kd, .int ln, .int ps, .int mm, .int tg, .int pw, .int st, .int sc, .int dt] I J Ir Jr := by
  obtain ⟨g1, ⟨g0, gr, th, sz, bg, kd0, ln0, ps0, tg0, sb0, dn0, pa, sl, la, n1, n2, n3⟩, g3, g4⟩ := id h
  obtain ⟨e1, s1, t1, u1, v1, w1, x1⟩ := sm_key h pw
  obtain ⟨e2, s2, t2, u2, v2, w2, x2⟩ := sm_key h st
  obtain ⟨e3, s3, t3, u3, v3, w3, x3⟩ := sm_key h sc
  obtain ⟨e4, s4, t4, u4, v4, w4, x4⟩ := sm_key h dt
  by_cases hb : fl_poss kd ln ps mm tg ∧ is_r pw ∧ (sc = -1 ∨ is_r sc) ∧ (dt = -1 ∨ is_r dt) ∧ is_r st ∧ 8 ≤ e2
  · obtain ⟨hpos, c1, c2, c3, c4, c5⟩ := hb
    obtain ⟨k2, l2, p2, m2, y2, rfl, rfl, rfl, rfl, rfl, h2, h3, h4, h5, h6, h7, h8, h9, h10⟩ := sm_poss hpos
    obtain ⟨pw', hpw, rfl⟩ := is_r_of c1
    obtain ⟨st', hst, rfl⟩ := is_r_of c4
    have y1 := v1 c1
    have y3 := v2 c4
    rw [nI_clamp (by omega)] at y1 y3
    refine ⟨.int (nI (l2 * (4 * (m2 / (4 * l2))))), _, _, (mb_E Ir Jr gr k2 l2 p2 m2 y2 e1 e2 e3 e4 (nI pw') (nI st') sc dt).1, (mb_E Ir Jr gr k2 l2 p2 m2 y2 e1 e2 e3 e4 (nI pw') (nI st') sc dt).2, fun X => c_X4_begin_ok X I J n1 sc dt hpos h2 h3 h4 h5 h6 h7 h8 hpw hst c2 c3 s1 t1 s2 t2 c5 s3 t3 s4 t4, fun X => ?_, rfl, ?_⟩
    · rw [Nat.mul_comm l2 (4 * (m2 / (4 * l2)))]
      exact c_X5_begin_ok X Ir Jr n2 sc dt h2 h3 h4 h5 h6 h7 h8 h9 h10 hpw hst c2 c3 y1 u1 y3 u2 c5 v3 (fun z => w3 (by rw [z]; exact is_r_m1)) u3 v4 (fun z => w4 (by rw [z]; exact is_r_m1)) u4
    · exact sm_beginsim h h2 h3 h4 h5 h6 h7 h8 h9 h10 u1 u2 u3 u4 x1 x2 x3 x4
  · exact ⟨_, _, _, _, _, fun X => c_X4_begin_bad X I J kd ln ps mm tg pw st sc dt s2 u2 hb, fun X => c_X5_begin_bad X Ir Jr kd ln ps mm tg pw st sc dt v2 u2 hb, rfl, sm_0 h⟩
theorem sm_allsim {s r : zk_I × zk_J} {g0 gr : Nat → Int32} {t kd ln ps tg sb pa sl la : Nat} (h : Sim s.1 s.2 r.1 r.2) (ht : t < 8) (n1 : s.1 30 = fl_g g0 kd ln ps tg (4 * sb) sb 0 pa sl la) (hw : fl_is kd ln ps tg (4 * sb) sb) (htg : 4 ≤ tg) : Sim (sl_S s g0 t kd ln ps tg (4 * sb) sb).1 (sl_S s g0 t kd ln ps tg (4 * sb) sb).2 (ms_S r gr t kd ln ps tg sb).1 (ms_S r gr t kd ln ps tg sb).2 := by
  obtain ⟨w1, w2, w3, w4, w5, w6, w7, w8, w9, w10⟩ := id hw
  have hseg : ps * 4 * ln ≤ 80 := by
    have : ps * 4 * ln ≤ 20 * 4 := Nat.mul_le_mul (by omega) (by omega)
    omega
  unfold sl_S ms_S ms_T ms_I ms_J sl_I sl_J
  dsimp only
  rw [show min 100 (ps * 4 * ln - 0) = ps * 4 * ln by omega, show min 1000 (ps * 4 * ln - 0) = ps * 4 * ln by omega, Nat.zero_add]
  obtain ⟨pa', sl', la', hI'⟩ := fs_I_30 n1 (ps * 4 * ln)
  rw [Nat.zero_add] at hI'
  have hS : Sim (fs_I s.1 g0 kd ln ps tg (4 * sb) sb 0 (ps * 4 * ln)) (fs_J s.2 kd ln ps (4 * sb) sb 0 (ps * 4 * ln)) (zk_u r.1 0 (md_g gr 0 0 64 1 kd ln ps tg sb (ps * 4 * ln))) (mf_J r.2 kd ln ps sb 0 (ps * 4 * ln)) := by
    refine ⟨sm_R_of h.1 (fun a a1 a2 => fs_I_o (by omega) _) (zk_u_n (by decide)) (zk_u_n (by decide)), ⟨g0, gr, 0, 64, 1, kd, ln, ps, tg, sb, _, pa', sl', la', hI', zk_u_s, Or.inr ⟨rfl, hw, htg, Nat.le_refl _⟩⟩, qs_fill h.2.2.1 hw _ (by omega), ?_⟩
    rw [fs_I_o (by decide)]
    exact h.2.2.2
  exact sm_tagsim hS ht hI' hw htg (Nat.le_refl _)
theorem sm_seal (h : Sim I J Ir Jr) (t kd ln ps mm tg pw st : Int32) : sm_op yX4_seal cX4_seal 10 (7, 169) yX5_seal cX5_seal 9 (8, 201) (some .int) [.int t, .int kd, .int ln, .int ps, .int mm, .int tg, .int pw, .int st] I J Ir Jr := by
  obtain ⟨g1, ⟨g0, gr, th, sz, bg, kd0, ln0, ps0, tg0, sb0, dn0, pa, sl, la, n1, n2, n3⟩, g3, g4⟩ := id h
  obtain ⟨e1, s1, t1, u1, v1, w1, x1⟩ := sm_key h pw
  obtain ⟨e2, s2, t2, u2, v2, w2, x2⟩ := sm_key h st
  by_cases hr : is_r t
  · by_cases hb : fl_poss kd ln ps mm tg ∧ is_r pw ∧ ((-1 : Int32) = -1 ∨ is_r (-1)) ∧ ((-1 : Int32) = -1 ∨ is_r (-1)) ∧ is_r st ∧ 8 ≤ e2
    · obtain ⟨hpos, c1, -, -, c4, c5⟩ := hb
      obtain ⟨k2, l2, p2, m2, y2, rfl, rfl, rfl, rfl, rfl, h2, h3, h4, h5, h6, h7, h8, h9, h10⟩ := sm_poss hpos
      obtain ⟨pw', hpw, rfl⟩ := is_r_of c1
      obtain ⟨st', hst, rfl⟩ := is_r_of c4
      obtain ⟨t', ht, rfl⟩ := is_r_of hr
      have y1 := v1 c1
      have y3 := v2 c4
      rw [nI_clamp (by omega)] at y1 y3
      have e18 : rg_p (-1) = 18 := by unfold rg_p; rw [if_neg is_r_m1]
      refine ⟨_, _, _, _, _, fun X => c_X4_seal_ok X I J n1 ht hpos h2 h3 h4 h5 h6 h7 h8 h9 (by omega) hpw hst s1 t1 s2 t2 c5 (by rw [e18]; exact g4), fun X => c_X5_seal_ok X Ir Jr n2 ht h2 h3 h4 h5 h6 h7 h8 h9 h10 hpw hst y1 u1 y3 u2 c5, rfl, ?_⟩
      have hsb := fl_sb h3 h4 h5 h6
      have hrb : ∀ x, md_rb (md_0 Ir) x = md_rb Ir x := fun x => by unfold md_rb; rw [md_0_o (by decide)]
      have hB := sm_beginsim (g0 := g0) (gr := gr) (pa := pa) (sl := sl) (la := la) (pw := nI pw') (st := nI st') (sc := -1) (dt := -1) (e3 := 0) (e4 := 0) (sm_0 h) h2 h3 h4 h5 h6 h7 h8 h9 h10 u1 u2 (Nat.zero_le _) (Nat.zero_le _) (by rw [hrb]; exact x1) (by rw [hrb]; exact x2) (fun i hi => absurd hi (Nat.not_lt_zero i)) (fun i hi => absurd hi (Nat.not_lt_zero i))
      exact sm_allsim hB ht bg_S_30 ⟨h2, h3, h4, h9, h7, h8, rfl, hsb.1, hsb.2.1, hsb.2.2⟩ h10
    · exact ⟨_, _, _, _, _, fun X => c_X4_seal_bad2 X I J t kd ln ps mm tg pw st hr s2 u2 hb, fun X => c_X5_seal_bad2 X Ir Jr t kd ln ps mm tg pw st hr v2 u2 hb, rfl, sm_0 (sm_0 h)⟩
  · exact ⟨_, _, _, _, _, fun X => c_X4_seal_bad1 X I J t kd ln ps mm tg pw st hr, fun X => c_X5_seal_bad1 X Ir Jr t kd ln ps mm tg pw st hr, rfl, sm_0 h⟩
end SB
