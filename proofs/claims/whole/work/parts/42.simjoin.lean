/-! SIMULATION: JOIN -/
theorem qj_s (a b : Int64) : jz_s a b = md_s a b := by
  unfold jz_s md_s
  rw [Int64.add_assoc]
abbrev qj_ne (a b c d : Nat) : Prop := a ≠ b ∧ a ≠ c ∧ a ≠ d ∧ b ≠ c ∧ b ≠ d ∧ c ≠ d
def qj_u (z : Nat → Int64) (a b c d : Nat) (x : md_q) : Nat → Int64 := vp_updL (vp_updL (vp_updL (vp_updL z a x.1) b x.2.1) c x.2.2.1) d x.2.2.2
section QJ
variable {z : Nat → Int64} {a b c d : Nat} {x : md_q}
theorem qj_a (h : qj_ne a b c d) : qj_u z a b c d x a = x.1 := by unfold qj_u; rw [pk_uLn h.2.2.1, pk_uLn h.2.1, pk_uLn h.1, pk_uLs]
theorem qj_b (h : qj_ne a b c d) : qj_u z a b c d x b = x.2.1 := by unfold qj_u; rw [pk_uLn h.2.2.2.2.1, pk_uLn h.2.2.2.1, pk_uLs]
theorem qj_c (h : qj_ne a b c d) : qj_u z a b c d x c = x.2.2.1 := by unfold qj_u; rw [pk_uLn h.2.2.2.2.2, pk_uLs]
theorem qj_d : qj_u z a b c d x d = x.2.2.2 := by unfold qj_u; rw [pk_uLs]
theorem qj_o {j : Nat} (h1 : j ≠ a) (h2 : j ≠ b) (h3 : j ≠ c) (h4 : j ≠ d) : qj_u z a b c d x j = z j := by unfold qj_u; rw [pk_uLn h4, pk_uLn h3, pk_uLn h2, pk_uLn h1]
theorem qj_ext (h : qj_ne a b c d) {f : Nat → Int64} (ha : f a = x.1) (hb : f b = x.2.1) (hc : f c = x.2.2.1) (hd : f d = x.2.2.2) (ho : ∀ j, j ≠ a → j ≠ b → j ≠ c → j ≠ d → f j = z j) : f = qj_u z a b c d x := by
  funext j
  by_cases ea : j = a
  · rw [ea, ha, qj_a h]
  by_cases eb : j = b
  · rw [eb, hb, qj_b h]
  by_cases ec : j = c
  · rw [ec, hc, qj_c h]
  by_cases ed : j = d
  · rw [ed, hd, qj_d]
  rw [ho j ea eb ec ed, qj_o ea eb ec ed]
theorem qj_1 (h : qj_ne a b c d) : jz_sum (qj_u z a b c d x) a b = qj_u z a b c d (md_qa x) := by
  unfold jz_sum
  rw [qj_a h, qj_b h, qj_s]
  obtain ⟨h1, h2, h3, h4, h5, h6⟩ := id h
  exact qj_ext h pk_uLs (by rw [pk_uLn h1.symm, qj_b h]; rfl) (by rw [pk_uLn h2.symm, qj_c h]; rfl) (by rw [pk_uLn h3.symm, qj_d]; rfl) (fun j e1 e2 e3 e4 => by rw [pk_uLn e1, qj_o e1 e2 e3 e4])
theorem qj_2 (h : qj_ne a b c d) (k : Nat) : hz_rot (qj_u z a b c d x) d a k = qj_u z a b c d (md_qd x k) := by
  unfold hz_rot
  rw [qj_a h, qj_d]
  obtain ⟨h1, h2, h3, h4, h5, h6⟩ := id h
  exact qj_ext h (by rw [pk_uLn h3, qj_a h]; rfl) (by rw [pk_uLn h5, qj_b h]; rfl) (by rw [pk_uLn h6, qj_c h]; rfl) pk_uLs (fun j e1 e2 e3 e4 => by rw [pk_uLn e4, qj_o e1 e2 e3 e4])
theorem qj_3 (h : qj_ne a b c d) : jz_sum (qj_u z a b c d x) c d = qj_u z a b c d (md_qc x) := by
  unfold jz_sum
  rw [qj_c h, qj_d, qj_s]
  obtain ⟨h1, h2, h3, h4, h5, h6⟩ := id h
  exact qj_ext h (by rw [pk_uLn h2, qj_a h]; rfl) (by rw [pk_uLn h4, qj_b h]; rfl) pk_uLs (by rw [pk_uLn h6.symm, qj_d]; rfl) (fun j e1 e2 e3 e4 => by rw [pk_uLn e3, qj_o e1 e2 e3 e4])
theorem qj_4 (h : qj_ne a b c d) (k : Nat) : hz_rot (qj_u z a b c d x) b c k = qj_u z a b c d (md_qb x k) := by
  unfold hz_rot
  rw [qj_b h, qj_c h]
  obtain ⟨h1, h2, h3, h4, h5, h6⟩ := id h
  exact qj_ext h (by rw [pk_uLn h1, qj_a h]; rfl) pk_uLs (by rw [pk_uLn h4.symm, qj_c h]; rfl) (by rw [pk_uLn h5.symm, qj_d]; rfl) (fun j e1 e2 e3 e4 => by rw [pk_uLn e2, qj_o e1 e2 e3 e4])
theorem qj_mix (h : qj_ne a b c d) (v : Nat → Int64) : jz_mix v a b c d = qj_u v a b c d (md_q8 (v a, v b, v c, v d)) := by
  have e : v = qj_u v a b c d (v a, v b, v c, v d) := qj_ext h rfl rfl rfl rfl (fun _ _ _ _ _ => rfl)
  have key : ∀ w, w = qj_u v a b c d (v a, v b, v c, v d) → jz_mix w a b c d = qj_u v a b c d (md_q8 (v a, v b, v c, v d)) := by
    intro w hw
    unfold jz_mix md_q8
    rw [hw, qj_1 h, qj_2 h, qj_3 h, qj_4 h, qj_1 h, qj_2 h, qj_3 h, qj_4 h]
  exact key v e
end QJ
theorem qj_hard (z : Nat → Int64) (a b c d : Nat) : md_hard z a b c d = qj_u z a b c d (md_q8 (z a, z b, z c, z d)) := by
  unfold md_hard qj_u
  rfl
/-- z holds v at the spots, and is z0 elsewhere -/
def qj_ag (sp : Nat → Nat) (v z z0 : Nat → Int64) : Prop := (∀ l, l < 16 → z (sp l) = v l) ∧ ∀ j, (∀ l, l < 16 → j ≠ sp l) → z j = z0 j
theorem qj_st {sp : Nat → Nat} (hin : ∀ l l', l < 16 → l' < 16 → sp l = sp l' → l = l') {v z z0 : Nat → Int64} (h : qj_ag sp v z z0) {x y u w : Nat} (hx : x < 16) (hy : y < 16) (hu : u < 16) (hw : w < 16) (hne : qj_ne x y u w) : qj_ag sp (jz_mix v x y u w) (md_hard z (sp x) (sp y) (sp u) (sp w)) z0 := by
  have hn2 : qj_ne (sp x) (sp y) (sp u) (sp w) := ⟨fun e => hne.1 (hin _ _ hx hy e), fun e => hne.2.1 (hin _ _ hx hu e), fun e => hne.2.2.1 (hin _ _ hx hw e), fun e => hne.2.2.2.1 (hin _ _ hy hu e), fun e => hne.2.2.2.2.1 (hin _ _ hy hw e), fun e => hne.2.2.2.2.2 (hin _ _ hu hw e)⟩
  rw [qj_mix hne v, qj_hard, h.1 x hx, h.1 y hy, h.1 u hu, h.1 w hw]
  generalize md_q8 (v x, v y, v u, v w) = Q
  refine ⟨fun l hl => ?_, fun j hj => ?_⟩
  · by_cases ex : l = x
    · rw [ex, qj_a hn2, qj_a hne]
    by_cases ey : l = y
    · rw [ey, qj_b hn2, qj_b hne]
    by_cases eu : l = u
    · rw [eu, qj_c hn2, qj_c hne]
    by_cases ew : l = w
    · rw [ew, qj_d, qj_d]
    rw [qj_o (fun e => ex (hin _ _ hl hx e)) (fun e => ey (hin _ _ hl hy e)) (fun e => eu (hin _ _ hl hu e)) (fun e => ew (hin _ _ hl hw e)), qj_o ex ey eu ew]
    exact h.1 l hl
  · rw [qj_o (hj x hx) (hj y hy) (hj u hu) (hj w hw)]
    exact h.2 j hj
theorem qj_r8 (v : Nat → Int64) : jz_r8 v 8 = jz_mix (jz_mix (jz_mix (jz_mix (jz_mix (jz_mix (jz_mix (jz_mix v 0 4 8 12) 1 5 9 13) 2 6 10 14) 3 7 11 15) 0 5 10 15) 1 6 11 12) 2 7 8 13) 3 4 9 14 := by
  rw [jz_r8, jz_r8, jz_r8, jz_r8, jz_r8, jz_r8, jz_r8, jz_r8, jz_r8]
  rfl
theorem qj_sp_in {fr b : Nat} : ∀ l l', l < 16 → l' < 16 → md_sp fr b l = md_sp fr b l' → l = l' := by
  intro l l' h1 h2
  unfold md_sp
  split <;> omega
theorem qj_8 {fr b : Nat} {z v0 : Nat → Int64} (h0 : qj_ag (md_sp fr b) v0 z z) : qj_ag (md_sp fr b) (jz_r8 v0 8) (md_st z fr b) z := by
  rw [qj_r8]
  unfold md_st md_qt
  exact qj_st qj_sp_in (qj_st qj_sp_in (qj_st qj_sp_in (qj_st qj_sp_in (qj_st qj_sp_in (qj_st qj_sp_in (qj_st qj_sp_in (qj_st qj_sp_in h0 (by decide) (by decide) (by decide) (by decide) (by decide)) (by decide) (by decide) (by decide) (by decide) (by decide)) (by decide) (by decide) (by decide) (by decide) (by decide)) (by decide) (by decide) (by decide) (by decide) (by decide)) (by decide) (by decide) (by decide) (by decide) (by decide)) (by decide) (by decide) (by decide) (by decide) (by decide)) (by decide) (by decide) (by decide) (by decide) (by decide)) (by decide) (by decide) (by decide) (by decide) (by decide)
theorem qj_out {z v : Nat → Int64} {st wy : Nat} {sp : Nat → Nat} (hsp : ∀ l, sp l = st + wy * (l / 2) + l % 2) (hin : ∀ l l', l < 16 → l' < 16 → sp l = sp l' → l = l') : ∀ n, n ≤ 8 → (∀ l, l < 2 * n → jz_out z v st wy n (sp l) = v l) ∧ ∀ j, (∀ l, l < 2 * n → j ≠ sp l) → jz_out z v st wy n j = z j
  | 0, _ => ⟨fun l hl => by omega, fun j _ => rfl⟩
  | n + 1, hn => by
    obtain ⟨i1, i2⟩ := qj_out (z := z) (v := v) hsp hin n (by omega)
    have e0 : st + wy * n = sp (2 * n) := by rw [hsp, show 2 * n / 2 = n by omega, show 2 * n % 2 = 0 by omega]; rfl
    have e1 : st + wy * n + 1 = sp (2 * n + 1) := by rw [hsp, show (2 * n + 1) / 2 = n by omega, show (2 * n + 1) % 2 = 1 by omega]
    rw [jz_out, e1, e0]
    refine ⟨fun l hl => ?_, fun j hj => ?_⟩
    · by_cases h1 : l = 2 * n + 1
      · rw [h1, pk_uLs]
      · rw [pk_uLn (fun e => h1 (hin _ _ (by omega) (by omega) e))]
        by_cases h0 : l = 2 * n
        · rw [h0, pk_uLs]
        · rw [pk_uLn (fun e => h0 (hin _ _ (by omega) (by omega) e))]
          exact i1 l (by omega)
    · rw [pk_uLn (hj _ (by omega)), pk_uLn (hj _ (by omega))]
      exact i2 j (fun l hl => hj l (by omega))
theorem qj_uniq {sp : Nat → Nat} {v z1 z2 z0 : Nat → Int64} (h1 : qj_ag sp v z1 z0) (h2 : qj_ag sp v z2 z0) : z1 = z2 := by
  funext j
  by_cases e : ∃ l, l < 16 ∧ j = sp l
  · obtain ⟨l, hl, rfl⟩ := e
    rw [h1.1 l hl, h2.1 l hl]
  · have hj : ∀ l, l < 16 → j ≠ sp l := fun l hl ee => e ⟨l, hl, ee⟩
    rw [h1.2 j hj, h2.2 j hj]
theorem qj_stir {p : (Nat → Int64) × (Nat → Int64)} {st wy b : Nat} (hb : (b = 0 ∧ wy = 2) ∨ (b = 1 ∧ wy = 16)) : (jz_st p st wy).1 = md_st p.1 st b := by
  have hsp : ∀ l, md_sp st b l = st + wy * (l / 2) + l % 2 := by
    intro l
    unfold md_sp
    rcases hb with ⟨rfl, rfl⟩ | ⟨rfl, rfl⟩
    · rw [if_pos rfl]; omega
    · rw [if_neg (by decide)]
  have h0 : qj_ag (md_sp st b) (jz_in p.2 p.1 st wy 8) p.1 p.1 := ⟨fun l hl => by unfold jz_in; rw [if_pos (by omega), hsp], fun _ _ => rfl⟩
  have A := qj_8 h0
  have B := qj_out (z := p.1) (v := jz_r8 (jz_in p.2 p.1 st wy 8) 8) hsp qj_sp_in 8 (Nat.le_refl _)
  unfold jz_st
  dsimp only
  generalize jz_r8 (jz_in p.2 p.1 st wy 8) 8 = v at A B ⊢
  exact qj_uniq B A
theorem qj_rows (p : (Nat → Int64) × (Nat → Int64)) : ∀ i, (jz_rows p i).1 = md_rows p.1 i
  | 0 => rfl
  | i + 1 => by rw [jz_rows, md_rows, ← qj_rows p i]; exact qj_stir (Or.inl ⟨rfl, rfl⟩)
theorem qj_cols (p : (Nat → Int64) × (Nat → Int64)) : ∀ i, (jz_cols p i).1 = md_cols p.1 i
  | 0 => rfl
  | i + 1 => by rw [jz_cols, md_cols, ← qj_cols p i]; exact qj_stir (Or.inr ⟨rfl, rfl⟩)
/-! the words from 128 on don't matter -/
theorem qj_qc {z z' : Nat → Int64} (h : qx_q 128 z z') {fr b x y u w : Nat} (hs : ∀ l, l < 16 → md_sp fr b l < 128) (hx : x < 16) (hy : y < 16) (hu : u < 16) (hw : w < 16) : qx_q 128 (md_qt z fr b x y u w) (md_qt z' fr b x y u w) := by
  unfold md_qt md_hard
  rw [h _ (hs x hx), h _ (hs y hy), h _ (hs u hu), h _ (hs w hw)]
  exact qx_qu (qx_qu (qx_qu (qx_qu h rfl) rfl) rfl) rfl
theorem qj_sc {z z' : Nat → Int64} (h : qx_q 128 z z') {fr b : Nat} (hfr : (b = 0 ∧ fr + 16 ≤ 128) ∨ (b = 1 ∧ fr + 114 ≤ 128)) : qx_q 128 (md_st z fr b) (md_st z' fr b) := by
  have hs : ∀ l, l < 16 → md_sp fr b l < 128 := by
    intro l hl
    unfold md_sp
    split <;> omega
  unfold md_st
  exact qj_qc (qj_qc (qj_qc (qj_qc (qj_qc (qj_qc (qj_qc (qj_qc h hs (by decide) (by decide) (by decide) (by decide)) hs (by decide) (by decide) (by decide) (by decide)) hs (by decide) (by decide) (by decide) (by decide)) hs (by decide) (by decide) (by decide) (by decide)) hs (by decide) (by decide) (by decide) (by decide)) hs (by decide) (by decide) (by decide) (by decide)) hs (by decide) (by decide) (by decide) (by decide)) hs (by decide) (by decide) (by decide) (by decide)
theorem qj_rc {z z' : Nat → Int64} (h : qx_q 128 z z') : ∀ i, i ≤ 8 → qx_q 128 (md_rows z i) (md_rows z' i)
  | 0, _ => h
  | i + 1, hi => by rw [md_rows, md_rows]; exact qj_sc (qj_rc h i (by omega)) (Or.inl ⟨rfl, by omega⟩)
theorem qj_cc {z z' : Nat → Int64} (h : qx_q 128 z z') : ∀ i, i ≤ 8 → qx_q 128 (md_cols z i) (md_cols z' i)
  | 0, _ => h
  | i + 1, hi => by rw [md_cols, md_cols]; exact qj_sc (qj_cc h i (by omega)) (Or.inr ⟨rfl, by omega⟩)
theorem qj_jx {n n' f f' x x' : Nat → Int64} (hn : qx_q 128 n n') (hf : qx_q 128 f f') : qx_q 128 (md_jx n f x) (md_jx n' f' x') := by
  unfold md_jx
  exact qj_cc (qj_rc (fun k hk => by rw [fz_in hk, fz_in hk, hn k hk, hf k hk]) 8 (Nat.le_refl _)) 8 (Nat.le_refl _)
theorem qj_jj {n n' f f' x x' : Nat → Int64} (hn : qx_q 128 n n') (hf : qx_q 128 f f') : qx_q 128 (md_jj n f x) (md_jj n' f' x') := fun k hk => by
  unfold md_jj
  rw [fz_in hk, fz_in hk, qj_jx (x' := x') hn hf k hk, hn k hk, hf k hk]
theorem qj_join {J : zk_J} {kx ky : Nat} {n f : Nat → Int64} (x : Nat → Int64) (hx : qx_q 128 (J kx) n) (hy : qx_q 128 (J ky) f) (ki b : Nat) {k : Nat} (hk : k < 128) : jz_r J kx ky ki b k = (if b = 0 then lN 0 else J ki k) ^^^ md_jj n f x k := by
  have e : (jz_zv J kx ky).1 = md_jx (J kx) (J ky) (J 36) := by
    unfold jz_zv md_jx
    rw [qj_cols, qj_rows]
    rfl
  unfold jz_r
  rw [e, qj_jx (x' := x) hx hy k hk, fz_in hk]
  unfold jz_x md_jj
  rw [fz_in hk, hx k hk, hy k hk, Int64.xor_assoc]
theorem jz_join_k {J : zk_J} {kx ky ki b : Nat} : jz_join J kx ky ki b ki = fz_fill (J ki) (jz_r J kx ky ki b) 128 := zk_u_s
theorem jz_join_o {J : zk_J} {kx ky ki b a : Nat} (h : a ≠ ki) (h5 : a ≠ 35) (h6 : a ≠ 36) (h7 : a ≠ 37) : jz_join J kx ky ki b a = J a := by
  unfold jz_join
  rw [zk_u_n h, jz_set_o h5 h6 h7]
theorem qj_0x (x : Int64) : lN 0 ^^^ x = x := by
  rw [show lN 0 = (0 : Int64) from rfl, Int64.zero_xor]
