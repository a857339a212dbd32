/-! SIMULATION: begin, seal -/
theorem qb_4 {p : Nat × (Nat → Int32)} {P : md_P} {n : Nat} (h : qx_e p n P.1 ∧ P.2 = n) (x : Int64) (hn : n + 4 ≤ 1028) : qx_e (bz_pn 1028 p x 4) (n + 4) (md_p4 P x).1 ∧ (md_p4 P x).2 = n + 4 := by
  obtain ⟨h1, rfl⟩ := h
  exact ⟨qx_epn h1 4 (by decide) hn, rfl⟩
theorem qb_o {p : Nat × (Nat → Int32)} {P : md_P} {n e : Nat} {f g : Nat → Int32} (h : qx_e p n P.1 ∧ P.2 = n) (hb : ∀ i, i < e → f i &&& nI 255 = g i) (hn : n + 4 + e ≤ 1028) : qx_e (pw_M p e f) (n + 4 + e) (md_po P e g).1 ∧ (md_po P e g).2 = n + 4 + e := by
  obtain ⟨h1, rfl⟩ := h
  exact ⟨qx_epa (qx_epn h1 4 (by decide) (by omega)) e hn hb, rfl⟩
theorem md_w_c {bt bt' : Nat → Int32} {i : Nat} : ∀ m, (∀ b, b < m → bt (i + b) = bt' (i + b)) → md_w bt i m = md_w bt' i m
  | 0, _ => rfl
  | m + 1, h => by rw [md_w, md_w, md_w_c m (fun b hb => h b (by omega)), h m (by omega)]
theorem qb_ml {f : Nat → Int64} {b : Nat} {o : Nat → Int32} (hz : ∀ k, k < 128 → f (b + k) = lN 0) : ∀ n, n ≤ 1024 → ∀ q, md_ml f b o n q = if b ≤ q ∧ q < b + 128 then md_w o (8 * (q - b)) (min 8 (n - 8 * (q - b))) else f q
  | 0, _, q => by
    rw [md_ml]
    by_cases e : b ≤ q ∧ q < b + 128
    · rw [if_pos e, show min 8 (0 - 8 * (q - b)) = 0 by omega, md_w]
      have := hz (q - b) (by omega)
      rwa [show b + (q - b) = q by omega] at this
    · rw [if_neg e]
  | n + 1, hn, q => by
    rw [md_ml]
    by_cases e : q = b + n / 8
    · subst e
      rw [pk_uLs, qb_ml hz n (by omega), if_pos (by omega), if_pos (by omega), show b + n / 8 - b = n / 8 by omega, show min 8 (n - 8 * (n / 8)) = n % 8 by omega, show min 8 (n + 1 - 8 * (n / 8)) = n % 8 + 1 by omega, md_w, show 8 * (n / 8) + n % 8 = n by omega]
    · rw [pk_uLn e, qb_ml hz n (by omega)]
      by_cases e2 : b ≤ q ∧ q < b + 128
      · rw [if_pos e2, if_pos e2, show min 8 (n + 1 - 8 * (q - b)) = min 8 (n - 8 * (q - b)) by omega]
      · rw [if_neg e2, if_neg e2]
/-- ahead of first block q -/
def qb_I (op : Nat → Int32) (lb q : Nat) (s r : zk_I × zk_J) : Prop := qx_e (64, s.1 21) 64 op ∧ (∀ k, k < 64 → r.2 13 k = (op k).toInt64) ∧ qs_R s.2 (md_of r.2) ∧ (∀ b, b < 128 → lb * (q / 2) + q % 2 ≤ b → ∀ k, k < 128 → r.2 9 (128 * b + k) = lN 0)
theorem qb_msg {op : Nat → Int32} {I : zk_I} {f : Nat → Int32} {a : Nat → Int64} {l j : Nat} (ho : qx_e (64, I 21) 64 op) (ha : ∀ k, k < 64 → a k = (op k).toInt64) : qx_e (lf_M I 64 l j) 76 (fz_fill (mb_m f a l j) (md_ib 1024) 4) := by
  have a1 := qx_epn (x := lN 1024) (n := 1028) (qx_e0 (f := I 24) (g := fun _ => nI 0)) 4 (by decide) (by decide)
  have a2 := qx_epa (n := 1028) (f := I 21) (b := op) a1 64 (by decide) ho.2
  have a3 := qx_epn (x := lN j) (n := 1028) a2 4 (by decide) (by decide)
  have a4 := qx_epn (x := lN l) (n := 1028) a3 4 (by decide) (by decide)
  unfold lf_M
  refine qx_ec a4 rfl (fun i hi => ?_)
  have hi : i < 76 := hi
  unfold mb_m
  by_cases i4 : i < 4
  · rw [fz_in i4, md_cp_out (by omega), md_cp_out (by omega), md_cp_out (by omega), md_cp_in (by omega) (by omega), qx_ib (by decide) i4]
    exact congrArg _ (Nat.sub_zero i)
  · rw [fz_at (by omega)]
    by_cases i68 : i < 68
    · rw [md_cp_out (by omega), md_cp_out (by omega), md_cp_in (by omega) (by omega), md_cp_out (by omega), md_cp_out (by omega), md_cp_in (by omega) (by omega), ha _ (by omega), qx_by0 (qx_e_lt ho (by omega))]
    · by_cases i72 : i < 72
      · rw [md_cp_out (by omega), md_cp_in (by omega) (by omega), md_cp_out (by omega), md_cp_in (by omega) (by omega)]
      · rw [md_cp_in (by omega) (by omega), md_cp_in (by omega) (by omega)]
theorem qb_step {op : Nat → Int32} {lb sc q : Nat} {s r : zk_I × zk_J} {g76 g64 : Nat → Int32} (hlb : lb = 4 * sc) (h2 : 2 ≤ lb) (h : qb_I op lb q s r) (hb : lb * (q / 2) + q % 2 < 128) : qb_I op lb (q + 1) (lf_1 s 64 lb (q / 2) (q % 2)) (mb_1 r g76 g64 sc (q / 2) (q % 2)) := by
  obtain ⟨ho, ha, hR, hz⟩ := h
  have hm := qb_msg (f := r.1 4) (l := q / 2) (j := q % 2) ho ha
  have hL := qx_LL (I := s.1) (J := s.2) (Ir := mdm r.1 (mb_m (r.1 4) (r.2 13) (q / 2) (q % 2)) g76) (Jr := r.2) (g := g76) (g64 := g64) (sz := 76) (n := 1024) (by rw [mdm_4]; exact hm) (by decide) (by decide)
  have e21 : hz_I s.1 (hz_LL s.1 s.2 (lf_M s.1 64 (q / 2) (q % 2)) 1024) 21 = s.1 21 := hz_I_o (by omega)
  have hJo : ∀ a, a = 32 ∨ 38 ≤ a → (hz_LL s.1 s.2 (lf_M s.1 64 (q / 2) (q % 2)) 1024).2.2 a = s.2 a := fun a ha => hz_LL_J (by omega)
  have hJr : ∀ a, ¬ (5 ≤ a ∧ a ≤ 7) → (md_L (mdm r.1 (mb_m (r.1 4) (r.2 13) (q / 2) (q % 2)) g76) r.2 g76 g64 76 1024).2 a = r.2 a := fun a ha => md_L_J ha
  have hstep : lb * ((q + 1) / 2) + (q + 1) % 2 ≥ lb * (q / 2) + q % 2 + 1 := by
    rcases Nat.mod_two_eq_zero_or_one q with e | e
    · rw [show (q + 1) / 2 = q / 2 by omega]; omega
    · rw [show (q + 1) / 2 = q / 2 + 1 by omega, Nat.mul_add]; omega
  unfold lf_1 mb_1 lf_T mb_L
  generalize hz_LL s.1 s.2 (lf_M s.1 64 (q / 2) (q % 2)) 1024 = T at hL e21 hJo ⊢
  generalize md_L (mdm r.1 (mb_m (r.1 4) (r.2 13) (q / 2) (q % 2)) g76) r.2 g76 g64 76 1024 = S at hL hJr ⊢
  have e1 : q / 2 * lb + q % 2 = lb * (q / 2) + q % 2 := by rw [Nat.mul_comm]
  have e2 : 4 * sc * (q / 2) + q % 2 = lb * (q / 2) + q % 2 := by rw [hlb]
  unfold qb_I
  dsimp only
  rw [e1, e2]
  generalize lb * (q / 2) + q % 2 = nb at hb hz hstep ⊢
  have hz9 : ∀ k, k < 128 → S.2 9 (128 * nb + k) = lN 0 := fun k hk => by rw [hJr 9 (by decide)]; exact hz nb hb (Nat.le_refl _) k hk
  have hml := qb_ml (o := S.1 8) hz9 1024 (Nat.le_refl _)
  refine ⟨by rw [e21]; exact ho, fun k hk => by rw [zk_u_n (by decide), hJr 13 (by decide)]; exact ha k hk, ⟨fun b hb2 k hk => ?_, ?_⟩, fun b hb2 hq k hk => ?_⟩
  · show zk_u T.2.2 (38 + nb) (fz_fill (T.2.2 (38 + nb)) (fun k => hz_wd T.1.2 T.1.1 (8 * k)) 128) (38 + b) k = zk_u S.2 9 (md_ml (S.2 9) (128 * nb) (S.1 8) 1024) 9 (128 * b + k)
    rw [zk_u_s, hml]
    by_cases e : b = nb
    · subst e
      rw [zk_u_s, fz_in hk, if_pos (by omega), show 128 * b + k - 128 * b = k by omega, show min 8 (1024 - 8 * k) = 8 by omega]
      have hw := qx_word (f := T.1.2) (bt := fun i => if i < 1024 then S.1 8 i else nI 0) (c := T.1.1) (fun i hi => by rw [hL.1] at hi; rw [if_pos hi]; exact hL.2 i hi) (fun i hi => by rw [hL.1] at hi; rw [if_neg (by omega)]) (8 * k)
      rw [hw]
      exact md_w_c 8 (fun c hc => if_pos (by omega))
    · rw [zk_u_n (by omega), if_neg (by omega), hJo _ (by omega), hJr 9 (by decide)]
      exact hR.1 b hb2 k hk
  · rw [zk_u_n (by omega), hJo _ (Or.inl rfl)]
    exact hR.2
  · rw [zk_u_s, hml, if_neg (by omega), hJr 9 (by decide)]
    exact hz b hb2 (by omega) k hk
theorem qb_loop {op : Nat → Int32} {lb sc l2 : Nat} {s r : zk_I × zk_J} {g76 g64 : Nat → Int32} (hlb : lb = 4 * sc) (h2 : 2 ≤ lb) (hnb : l2 * lb ≤ 128) (h : qb_I op lb 0 s r) : ∀ q, q ≤ 2 * l2 → qb_I op lb q (lf s 64 lb q) (mb r g76 g64 sc q)
  | 0, _ => h
  | q + 1, hq => by
    rw [lf, mb]
    refine qb_step hlb h2 (qb_loop hlb h2 hnb h q (by omega)) ?_
    have : lb * (q / 2) + lb ≤ l2 * lb := by
      have := Nat.mul_le_mul_right lb (show q / 2 + 1 ≤ l2 by omega)
      rwa [Nat.add_mul, Nat.one_mul, Nat.mul_comm] at this
    omega
theorem mb_o {r : zk_I × zk_J} {g76 g64 : Nat → Int32} {sc a : Nat} (h0 : a ≠ 0) (h4 : a ≠ 4) (h8 : a ≠ 8) : ∀ q, (mb r g76 g64 sc q).1 a = r.1 a
  | 0 => rfl
  | q + 1 => by
    rw [mb, mb_1]
    dsimp only
    unfold mb_L
    rw [md_L_I h0 h4 h8, mdm_o h0 h4]
    exact mb_o h0 h4 h8 q
