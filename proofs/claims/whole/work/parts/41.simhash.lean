/-! SIMULATION: HASH and LONG -/
def qx_q (n : Nat) (v v' : Nat → Int64) : Prop := ∀ j, j < n → v j = v' j
theorem qx_qu {n : Nat} {v v' : Nat → Int64} {a : Nat} {x x' : Int64} (h : qx_q n v v') (hx : x = x') : qx_q n (vp_updL v a x) (vp_updL v' a x') := fun j hj => by
  by_cases e : j = a
  · subst e; rw [pk_uLs, pk_uLs, hx]
  · rw [pk_uLn e, pk_uLn e]; exact h j hj
theorem qx_add {v v' : Nat → Int64} (h : qx_q 16 v v') {a b : Nat} (ha : a < 16) (hb : b < 16) {x x' : Int64} (hx : x = x') : qx_q 16 (hz_add v a b x) (hz_add v' a b x') := qx_qu h (by rw [h a ha, h b hb, hx])
theorem qx_rot {v v' : Nat → Int64} (h : qx_q 16 v v') {d a : Nat} (hd : d < 16) (ha : a < 16) (k : Nat) : qx_q 16 (hz_rot v d a k) (hz_rot v' d a k) := qx_qu h (by rw [h a ha, h d hd])
theorem qx_inc {v v' : Nat → Int64} (h : qx_q 16 v v') {c d : Nat} (hc : c < 16) (hd : d < 16) : qx_q 16 (hz_inc v c d) (hz_inc v' c d) := qx_qu h (by rw [h c hc, h d hd])
theorem qx_mix {v v' : Nat → Int64} (h : qx_q 16 v v') {a b c d : Nat} (ha : a < 16) (hb : b < 16) (hc : c < 16) (hd : d < 16) {x x' y y' : Int64} (hx : x = x') (hy : y = y') : qx_q 16 (hz_mix v a b c d x y) (hz_mix v' a b c d x' y') := by
  unfold hz_mix
  exact qx_rot (qx_inc (qx_rot (qx_add (qx_rot (qx_inc (qx_rot (qx_add h ha hb hx) hd ha 32) hc hd) hb hc 24) ha hb hy) hd ha 16) hc hd) hb hc 63
theorem qx_rd {v v' w w' : Nat → Int64} (hv : qx_q 16 v v') (hw : qx_q 16 w w') : ∀ s, s ≤ 96 → qx_q 16 (hz_rd v w s) (hz_rd v' w' s)
  | 0, _ => hv
  | s + 1, h => by
    rw [hz_rd, hz_rd]
    exact qx_mix (qx_rd hv hw s (by omega)) (zk_four_lt _ (by omega)) (zk_four_lt _ (by omega)) (zk_four_lt _ (by omega)) (zk_four_lt _ (by omega)) (hw _ (zk_ord_lt _ (by omega))) (hw _ (zk_ord_lt _ (by omega)))
theorem qx_lv {v v' h h' : Nat → Int64} (hh : qx_q 8 h h') (t b : Nat) : qx_q 16 (hz_lv v h t b) (md_v3 v' h' t b) := by
  have base : qx_q 16 (hz_v0 v h 8) (fz_fill v' (md_v1 h') 16) := fun j hj => by
    rw [fz_in hj]
    unfold hz_v0 md_v1
    by_cases e : j < 8
    · rw [if_pos e, if_pos e]; exact hh j e
    · rw [if_neg e, if_pos (by omega), if_neg e]
  have s12 : qx_q 16 (vp_updL (hz_v0 v h 8) 12 (hz_v0 v h 8 12 ^^^ lN t)) (md_v2 v' h' t) := qx_qu base (by rw [base 12 (by decide)])
  unfold hz_lv md_v3
  by_cases hb : b = 0
  · rw [if_pos hb, if_pos hb]
    intro j hj
    rw [s12 j hj]
    by_cases e : j = 14
    · subst e; rw [pk_uLs]
    · rw [pk_uLn e]
  · rw [if_neg hb, if_neg hb]
    exact qx_qu s12 (by rw [s12 14 (by decide)])
theorem qx_fd {h h' v v' : Nat → Int64} (hh : qx_q 8 h h') (hv : qx_q 16 v v') : qx_q 8 (fz_fill h (hz_fd h v) 8) (fz_fill h' (md_fd h' v') 8) := fun j hj => by
  rw [fz_in hj, fz_in hj]
  unfold hz_fd md_fd
  rw [hh j hj, hv j (by omega), hv (8 + j) (by omega), Nat.add_comm 8 j]
theorem qx_S {f bt : Nat → Int32} {c : Nat} {s0 s0' : (Nat → Int64) × (Nat → Int64) × (Nat → Int64)} (hb : ∀ i, i < c → f i &&& nI 255 = bt i) (hz : ∀ i, c ≤ i → bt i = nI 0) (h0 : qx_q 8 s0.1 s0'.1) : ∀ p, qx_q 8 (hz_S f c s0 p).1 (md_S bt c s0' p).1
  | 0 => h0
  | p + 1 => by
    have ih := qx_S hb hz h0 p
    rw [hz_S, md_S]
    dsimp only
    refine qx_fd ih (qx_rd (qx_lv ih _ _) (fun j hj => ?_) 96 (Nat.le_refl _))
    unfold hz_pw md_W
    rw [fz_in hj, fz_in hj, qx_word hb hz, Nat.mul_comm p 128, Nat.mul_comm j 8]
theorem qx_k {ks n : Nat} (hk : ks ≤ 64) (hn : n ≤ 64) : hz_k ks n = md_k ks n := by
  unfold hz_k md_k
  rw [qx_xor, qx_xor, show (16842752 : Int64) = lN 16842752 from rfl, show (256 : Int64) = lN 256 from rfl, lN_mul, qx_lxor, qx_lxor]
  exact nI_l (Nat.xor_lt_two_pow (Nat.xor_lt_two_pow (by decide) (by omega)) (by omega))
theorem qx_h0 {h h' : Nat → Int64} {ks n : Nat} (hk : ks ≤ 64) (hn : n ≤ 64) : qx_q 8 (hz_h0 h ks n) (md_h0 h' ks n) := by
  unfold hz_h0 md_h0
  exact qx_qu (fun j hj => by rw [fz_in hj, fz_in hj]) (by rw [fz_in (by decide), fz_in (by decide), qx_k hk hn])
theorem qx_dg {f bt : Nat → Int32} {c ks sz n : Nat} {J Jr : zk_J} (hb : ∀ i, i < c → f i &&& nI 255 = bt i) (hz : ∀ i, c ≤ i → bt i = nI 0) (hc : c = md_all ks sz) (hk : ks ≤ 64) (hn : n ≤ 64) : qx_q 8 (hz_dg f c ks n J 27) (md_dg bt ks sz n Jr 5) := by
  subst hc
  unfold hz_dg md_dg
  rw [hz_set_h, md_set_h]
  exact qx_S hb hz (qx_h0 hk hn) _
theorem qx_hash {p : Nat × (Nat → Int32)} {sz n : Nat} {g key : Nat → Int32} {J Jr : zk_J} (h : qx_e p sz g) (hn : n ≤ 64) : qx_q 8 (hz_dg p.2 p.1 0 n J 27) (md_dg (md_b key g 0 sz) 0 sz n Jr 5) := by
  refine qx_dg (fun i hi => ?_) (fun i hi => ?_) ?_ (by decide) hn
  · rw [h.1] at hi
    unfold md_b
    rw [if_pos rfl, if_pos hi]
    exact h.2 i hi
  · rw [h.1] at hi
    unfold md_b
    rw [if_pos rfl, if_neg (by omega)]
  · rw [h.1]; rfl
theorem qx_gv {h h' : Nat → Int64} {p : Nat × (Nat → Int32)} {sz n : Nat} {g : Nat → Int32} (hh : qx_q 8 h h') (hp : qx_e p sz g) (hn : n ≤ 64) (hs : sz + n ≤ 1024) : ∀ i, i ≤ 8 → qx_e (hz_gv h p n i) (sz + min n (8 * i)) (md_cp g sz (md_ob h') (min n (8 * i)))
  | 0, _ => by rw [show min n (8 * 0) = 0 by omega, md_cp_0]; exact hp
  | i + 1, hi => by
    have ih := qx_gv hh hp hn hs i (by omega)
    have := qx_epn ih (n := 1024) (x := h' i) (min 8 (n - 8 * i)) (by omega) (by omega)
    rw [hz_gv, hh i (by omega)]
    refine qx_ec this (by omega) (fun k hk => ?_)
    by_cases e1 : sz ≤ k
    · by_cases e2 : k < sz + min n (8 * i)
      · rw [md_cp_out (by omega), md_cp_in e1 e2, md_cp_in e1 (by omega)]
      · rw [md_cp_in (by omega) hk, md_cp_in e1 (by omega)]
        unfold md_ob
        rw [show (k - sz) / 8 = i by omega, show (k - sz) % 8 = k - (sz + min n (8 * i)) by omega]
    · rw [md_cp_out (by omega), md_cp_out (by omega), md_cp_out (by omega)]
theorem qx_ts {h h' : Nat → Int64} {f : Nat → Int32} (hh : qx_q 8 h h') : ∀ i, i ≤ 8 → qx_e (hz_ts h f i) (8 * i) (md_ob h')
  | 0, _ => qx_e0
  | i + 1, hi => by
    have := qx_epn (qx_ts hh (f := f) i (by omega)) (n := 1028) (x := h' i) 8 (Nat.le_refl _) (by omega)
    rw [hz_ts, hh i (by omega)]
    refine qx_ec this (by omega) (fun k hk => ?_)
    by_cases e2 : k < 8 * i
    · rw [md_cp_out (by omega)]
    · rw [md_cp_in (by omega) hk]
      unfold md_ob
      rw [show k / 8 = i by omega, show k % 8 = k - 8 * i by omega]
theorem md_HI_8 {I : zk_I} {J : zk_J} {g : Nat → Int32} {pl n : Nat} : md_HI I J g pl n 8 = md_cp (I 8) pl (md_ob (J 5)) n := by
  unfold md_HI
  rw [zk_u_n (by decide), zk_u_s]
theorem md_HI_o {I : zk_I} {J : zk_J} {g : Nat → Int32} {pl n a : Nat} (h : a ≠ 0) (h8 : a ≠ 8) : md_HI I J g pl n a = I a := by
  unfold md_HI
  rw [zk_u_n h, zk_u_n h8]
theorem hz_L1_1 (s : hz_T) : (hz_L1 s).1 = hz_gv (hz_dg s.2.1.2 s.2.1.1 0 64 s.2.2 27) s.1 32 8 := by simp only [hz_L1]
theorem hz_L1_2 (s : hz_T) : (hz_L1 s).2.1 = hz_ts (hz_dg s.2.1.2 s.2.1.1 0 64 s.2.2 27) s.2.1.2 8 := by simp only [hz_L1]
theorem hz_LE_1 (s : hz_T) (n : Nat) : (hz_LE s n).1 = hz_gv (hz_dg s.2.1.2 s.2.1.1 0 (n - s.1.1) s.2.2 27) s.1 (n - s.1.1) 8 := by simp only [hz_LE]
theorem md_l0_8 {I : zk_I} {J : zk_J} {g : Nat → Int32} {sz n m : Nat} : (md_l0 I J g sz n m).1 8 = md_cp (I 8) 0 (md_ob (md_dg (md_b (I 3) (fz_fill (I 4) (md_ib n) 4) 0 sz) 0 sz m J 5)) m := by
  unfold md_l0
  dsimp only
  rw [md_HI_8, zk_u_n (by decide)]
theorem md_l1_8 {s : zk_I × zk_J} {g : Nat → Int32} {pl n : Nat} : (md_l1 s g pl n).1 8 = md_cp (s.1 8) (pl + 32) (md_ob (md_dg (md_b (s.1 3) (md_lf s pl) 0 64) 0 64 (min 64 (n - (pl + 32))) s.2 5)) (min 64 (n - (pl + 32))) := by
  unfold md_l1
  dsimp only
  rw [md_HI_8, mdm_o (by decide) (by decide)]
/-- LONG: behind turn t + 1 of the class, t of the reference -/
def qx_LI (s : hz_T) (r : zk_I × zk_J) (t : Nat) : Prop := qx_e s.1 (32 * (t + 1)) (r.1 8) ∧ qx_e s.2.1 64 (fun k => r.1 8 (32 * t + k))
theorem qx_L0 {s : hz_T} {Jr : zk_J} {Ir : zk_I} {g : Nat → Int32} {sz n : Nat} (h0 : s.1.1 = 0) (hp : qx_e s.2.1 sz (fz_fill (Ir 4) (md_ib n) 4)) : qx_LI (hz_L1 s) (md_l0 Ir Jr g sz n 64) 0 := by
  have hh := qx_hash (J := s.2.2) (Jr := Jr) (key := Ir 3) hp (show 64 ≤ 64 by decide)
  have hs : qx_e s.1 0 (fun _ => nI 0) := ⟨h0, fun i h => absurd h (Nat.not_lt_zero i)⟩
  unfold qx_LI
  rw [hz_L1_1, hz_L1_2, md_l0_8]
  generalize hz_dg s.2.1.2 s.2.1.1 0 64 s.2.2 27 = H at hh ⊢
  generalize md_dg (md_b (Ir 3) (fz_fill (Ir 4) (md_ib n) 4) 0 sz) 0 sz 64 Jr 5 = Hr at hh ⊢
  refine ⟨?_, ?_⟩
  · have := qx_gv hh hs (n := 32) (by decide) (by decide) 8 (by decide)
    refine qx_ec this (by decide) (fun k hk => ?_)
    have hk : k < 32 := hk
    rw [md_cp_in (by omega) (by omega), md_cp_in (by omega) (by omega)]
  · have := qx_ts hh (f := s.2.1.2) 8 (by decide)
    refine qx_ec this (by decide) (fun k hk => ?_)
    have hk : k < 64 := hk
    rw [md_cp_in (by omega) (by omega)]
    congr 1
    omega
theorem qx_Lf {s : hz_T} {r : zk_I × zk_J} {t : Nat} (h : qx_LI s r t) : qx_e s.2.1 64 (md_lf r (32 * t)) := by
  refine qx_ec h.2 rfl (fun k hk => ?_)
  have hlt : qx_n (r.1 8 (32 * t + k)) < 256 := qx_e_lt h.2 hk
  show r.1 8 (32 * t + k) = md_lf r (32 * t) k
  unfold md_lf
  rw [md_cp_in (by omega) (by omega), Nat.sub_zero, qx_by0 hlt]
theorem qx_LS {s : hz_T} {r : zk_I × zk_J} {t n : Nat} {g : Nat → Int32} (h : qx_LI s r t) (hm : min 64 (n - (32 * t + 32)) = 64) (hn : n ≤ 1024) : qx_LI (hz_L1 s) (md_l1 r g (32 * t) n) (t + 1) := by
  have hh := qx_hash (J := s.2.2) (Jr := r.2) (key := r.1 3) (qx_Lf h) (show 64 ≤ 64 by decide)
  have h1 := h.1
  unfold qx_LI
  rw [hz_L1_1, hz_L1_2, md_l1_8, hm]
  generalize hz_dg s.2.1.2 s.2.1.1 0 64 s.2.2 27 = H at hh ⊢
  generalize md_dg (md_b (r.1 3) (md_lf r (32 * t)) 0 64) 0 64 64 r.2 5 = Hr at hh ⊢
  refine ⟨?_, ?_⟩
  · have := qx_gv hh h1 (n := 32) (by decide) (by omega) 8 (by decide)
    refine qx_ec this (by omega) (fun k hk => ?_)
    by_cases e : k < 32 * (t + 1)
    · rw [md_cp_out (by omega), md_cp_out (by omega)]
    · rw [md_cp_in (by omega) (by omega), md_cp_in (by omega) (by omega)]
      congr 1
  · have := qx_ts hh (f := s.2.1.2) 8 (by decide)
    refine qx_ec this (by decide) (fun k hk => ?_)
    have hk : k < 64 := hk
    rw [md_cp_in (by omega) (by omega)]
    congr 1
    omega
theorem qx_LE {s : hz_T} {r : zk_I × zk_J} {t n : Nat} {g : Nat → Int32} (h : qx_LI s r t) (hm : n - (32 * t + 32) ≤ 64) (h32 : 32 * t + 32 ≤ n) (hn : n ≤ 1024) : qx_e (hz_LE s n).1 n ((md_l1 r g (32 * t) n).1 8) := by
  have hc : s.1.1 = 32 * (t + 1) := h.1.1
  have hh := qx_hash (n := n - s.1.1) (J := s.2.2) (Jr := r.2) (key := r.1 3) (qx_Lf h) (by omega)
  have h1 := h.1
  rw [hz_LE_1, md_l1_8, show min 64 (n - (32 * t + 32)) = n - s.1.1 by omega]
  generalize hz_dg s.2.1.2 s.2.1.1 0 (n - s.1.1) s.2.2 27 = H at hh ⊢
  generalize md_dg (md_b (r.1 3) (md_lf r (32 * t)) 0 64) 0 64 (n - s.1.1) r.2 5 = Hr at hh ⊢
  have := qx_gv hh h1 (n := n - s.1.1) (by omega) (by omega) 8 (by decide)
  refine qx_ec this (by omega) (fun k hk => ?_)
  by_cases e : k < 32 * (t + 1)
  · rw [md_cp_out (by omega), md_cp_out (by omega)]
  · rw [md_cp_in (by omega) (by omega), md_cp_in (by omega) (by omega)]
    congr 1
theorem qx_LL {I Ir : zk_I} {J Jr : zk_J} {p : Nat × (Nat → Int32)} {g g64 : Nat → Int32} {sz n : Nat} (hp : qx_e p sz (fz_fill (Ir 4) (md_ib n) 4)) (hn1 : 1 ≤ n) (hn : n ≤ 1024) : qx_e (hz_LL I J p n).1 n ((md_L Ir Jr g g64 sz n).1 8) := by
  unfold hz_LL md_L
  by_cases h : n ≤ 64
  · rw [if_pos h, show hz_turns n = 0 by unfold hz_turns; omega]
    have hh := qx_hash (n := n) (J := J) (Jr := Jr) (key := Ir 3) hp h
    rw [hz_L, hz_LE_1, md_l0_8]
    dsimp only
    rw [Nat.sub_zero]
    generalize hz_dg p.2 p.1 0 n J 27 = H at hh ⊢
    generalize md_dg (md_b (Ir 3) (fz_fill (Ir 4) (md_ib n) 4) 0 sz) 0 sz n Jr 5 = Hr at hh ⊢
    have := qx_gv hh (qx_e0 (f := I 26) (g := fun _ => nI 0)) (n := n) h (by omega) 8 (by decide)
    refine qx_ec this (by omega) (fun k hk => ?_)
    rw [md_cp_in (by omega) (by omega), md_cp_in (by omega) (by omega)]
  · rw [if_neg h]
    obtain ⟨T, hT⟩ : ∃ T, hz_turns n = T + 1 := ⟨hz_turns n - 1, by unfold hz_turns; omega⟩
    have hT2 : 32 * (T + 1) + 33 ≤ n ∧ n < 32 * (T + 1) + 65 := by unfold hz_turns at hT; omega
    have key : ∀ t, t ≤ T → qx_LI (hz_L ((0, I 26), p, J) (t + 1)) (md_lr (md_l0 Ir Jr g sz n 64) g64 n t) t := by
      intro t
      induction t with
      | zero => exact fun _ => qx_L0 (s := ((0, I 26), p, J)) rfl hp
      | succ t ih => exact fun ht => qx_LS (ih (by omega)) (by omega) hn
    rw [hT]
    exact qx_LE (key T (Nat.le_refl _)) (by omega) (by omega) hn
/-! what LONG and HASH leave as it was -/
theorem hz_dg_o {f : Nat → Int32} {c ks n : Nat} {J : zk_J} {a : Nat} (h : ¬ (27 ≤ a ∧ a ≤ 29)) : hz_dg f c ks n J a = J a := hz_set_o (by omega) (by omega) (by omega)
theorem md_dg_o {bt : Nat → Int32} {ks sz n : Nat} {J : zk_J} {a : Nat} (h : ¬ (5 ≤ a ∧ a ≤ 7)) : md_dg bt ks sz n J a = J a := md_set_o (by omega) (by omega) (by omega)
theorem hz_LL_J {I : zk_I} {J : zk_J} {p : Nat × (Nat → Int32)} {n a : Nat} (h : ¬ (27 ≤ a ∧ a ≤ 29)) : (hz_LL I J p n).2.2 a = J a := by
  have key : ∀ t, (hz_L ((0, I 26), p, J) t).2.2 a = J a := by
    intro t
    induction t with
    | zero => rfl
    | succ t ih => rw [hz_L, hz_L1]; dsimp only; rw [hz_dg_o h]; exact ih
  unfold hz_LL hz_LE
  dsimp only
  rw [hz_dg_o h]
  exact key _
theorem md_L_J {I : zk_I} {J : zk_J} {g g64 : Nat → Int32} {sz n a : Nat} (h : ¬ (5 ≤ a ∧ a ≤ 7)) : (md_L I J g g64 sz n).2 a = J a := by
  have h0 : ∀ m, (md_l0 I J g sz n m).2 a = J a := fun m => md_dg_o h
  have key : ∀ t, (md_lr (md_l0 I J g sz n 64) g64 n t).2 a = J a := by
    intro t
    induction t with
    | zero => exact h0 64
    | succ t ih => rw [md_lr, md_l1]; dsimp only; rw [md_dg_o h]; exact ih
  unfold md_L
  split
  · exact h0 n
  · exact key _
theorem md_L_I {I : zk_I} {J : zk_J} {g g64 : Nat → Int32} {sz n a : Nat} (h0 : a ≠ 0) (h4 : a ≠ 4) (h8 : a ≠ 8) : (md_L I J g g64 sz n).1 a = I a := by
  have hl : ∀ m, (md_l0 I J g sz n m).1 a = I a := fun m => by
    unfold md_l0
    dsimp only
    rw [md_HI_o h0 h8, zk_u_n h4]
  have key : ∀ t, (md_lr (md_l0 I J g sz n 64) g64 n t).1 a = I a := by
    intro t
    induction t with
    | zero => exact hl 64
    | succ t ih => rw [md_lr, md_l1]; dsimp only; rw [md_HI_o h0 h8, mdm_o h0 h4]; exact ih
  unfold md_L
  split
  · exact hl n
  · exact key _
