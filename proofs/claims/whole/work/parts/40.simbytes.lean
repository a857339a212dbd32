/-! SIMULATION: bytes and words of the class and of the reference -/
theorem qx_xor (a b : Nat) : nI a ^^^ nI b = nI (a ^^^ b) := by
  apply Int32.toBitVec_inj.1
  show BitVec.ofNat 32 a ^^^ BitVec.ofNat 32 b = BitVec.ofNat 32 (a ^^^ b)
  apply BitVec.eq_of_getLsbD_eq
  intro i hi
  simp [hi]
theorem qx_lxor (a b : Nat) : lN a ^^^ lN b = lN (a ^^^ b) := by
  apply wb_inj; rw [Int64.toBitVec_xor, wb_tb, wb_tb, wb_tb]; apply BitVec.eq_of_getLsbD_eq; intro i hi; simp [BitVec.getLsbD_ofNat, Nat.testBit_xor, hi]
theorem qx_b (x : Int32) : x.toInt8.toInt32 &&& 255 = x &&& 255 := by
  apply Int32.toBitVec_inj.mp
  rw [Int32.toBitVec_and, Int32.toBitVec_and, Int8.toBitVec_toInt32, Int32.toBitVec_toInt8]
  apply BitVec.eq_of_getLsbD_eq
  intro i hi
  rw [BitVec.getLsbD_and, BitVec.getLsbD_and]
  have hm : ∀ i < 32, 8 ≤ i → (255 : Int32).toBitVec.getLsbD i = false := by decide
  rcases Nat.lt_or_ge i 8 with z | z
  · rw [BitVec.getLsbD_signExtend, BitVec.getLsbD_signExtend, if_pos z, if_pos hi]
    simp only [z, hi, decide_true, Bool.true_and]
  · rw [hm i hi z]; simp
theorem qx_or {k a b : Nat} (ha : a < 2 ^ k) (h : b * 2 ^ k + a < 2 ^ 64) : lN (b * 2 ^ k) ||| lN a = lN (b * 2 ^ k + a) := by
  rw [wb_or (by omega) (by omega), ← Nat.shiftLeft_eq, ← Nat.shiftLeft_add_eq_or_of_lt ha]
theorem qx_or' {k a b : Nat} (ha : a < 2 ^ k) (h : a + b * 2 ^ k < 2 ^ 64) : lN a ||| lN (b * 2 ^ k) = lN (a + b * 2 ^ k) := by
  rw [Int64.or_comm, qx_or ha (by omega), Nat.add_comm]
def qx_n (x : Int32) : Nat := x.toBitVec.toNat
theorem qx_n_eq (x : Int32) : x = nI (qx_n x) := Int32.toBitVec_inj.mp (by show _ = BitVec.ofNat 32 _; simp [qx_n])
theorem qx_n_nI {n : Nat} (h : n < 2 ^ 32) : qx_n (nI n) = n := pk_tn h
theorem qx_n_mod (n : Nat) : qx_n (nI n) = n % 2 ^ 32 := by show (BitVec.ofNat 32 n).toNat = _; rw [BitVec.toNat_ofNat]
theorem qx_and (x : Int32) : x &&& nI 255 = nI (qx_n x % 256) := by
  have := pk_and x (m := nI 255) 8 (by decide +kernel)
  exact this
theorem qx_andN (n : Nat) : nI n &&& nI 255 = nI (n % 256) := by
  rw [qx_and, qx_n_mod]
  congr 1
  omega
theorem qx_and_lt (x : Int32) : qx_n (x &&& nI 255) < 256 := by
  rw [qx_and, qx_n_nI (by omega)]
  exact Nat.mod_lt _ (by decide)
theorem qx_and2 (x : Int32) : (x &&& nI 255) &&& nI 255 = x &&& nI 255 := by
  rw [qx_and (x &&& nI 255), qx_and x, qx_n_nI (by omega), Nat.mod_mod]
theorem qx_st (x : Int32) : x.toInt8.toInt32 &&& nI 255 = x &&& nI 255 := by
  have e : nI 255 = 255 := rfl
  rw [e]
  exact qx_b x
theorem qx_sar {a k : Nat} (hk : k ≤ 56) : (lN a >>> ((nI k).toInt64 &&& 63)) &&& 255 = lN (a / 2 ^ k % 256) := by
  rw [wb_c k (by omega)]
  apply wb_inj
  rw [Int64.toBitVec_and, Int64.toBitVec_shiftRight, wb_tb, wb_tb, wb_tb, wb_sm k (by omega)]
  apply BitVec.eq_of_getLsbD_eq
  intro j hj
  rw [BitVec.getLsbD_and, BitVec.sshiftRight_eq', BitVec.toNat_ofNat, Nat.mod_eq_of_lt (show k < 2 ^ 64 by omega), BitVec.getLsbD_sshiftRight]
  rw [show (256 : Nat) = 2 ^ 8 from rfl]
  simp only [BitVec.getLsbD_ofNat, Nat.testBit_mod_two_pow, Nat.testBit_div_two_pow]
  have hm : ∀ i, i < 64 → (255 : Int64).toBitVec.getLsbD i = decide (i < 8) := by decide +kernel
  rw [hm j hj]
  by_cases z : j < 8
  · have h1 : k + j < 64 := by omega
    have h2 : ¬ 64 ≤ j := by omega
    simp [z, hj, h1, h2, Nat.add_comm j k]
  · simp [z]
theorem qx_mby {a i : Nat} (hi : i < 8) : md_by (lN a) i = nI (a / 2 ^ (8 * i) % 256) := by
  unfold md_by
  rw [qx_sar (by omega), lN_i]
theorem qx_by (x : Int64) {i : Nat} (hi : i < 8) : bz_by x i &&& nI 255 = md_by x i := by
  obtain ⟨a, ha, rfl⟩ := wb_of x
  rw [qx_mby hi]
  unfold bz_by
  rw [wb_shr ha (by omega), lN_i, qx_andN]
theorem qx_mby_lt (x : Int64) {i : Nat} (hi : i < 8) : qx_n (md_by x i) < 256 := by
  rw [← qx_by x hi]
  exact qx_and_lt _
theorem qx_by0 {x : Int32} (h : qx_n x < 256) : md_by x.toInt64 0 = x := by
  obtain ⟨b, hb, rfl⟩ : ∃ b, b < 256 ∧ x = nI b := ⟨qx_n x, h, qx_n_eq x⟩
  rw [nI_l (by omega), qx_mby (by decide)]
  congr 1
  show b / 2 ^ 0 % 256 = b
  rw [Nat.pow_zero, Nat.div_one]
  omega
theorem qx_s8 : ∀ k, k < 4 → ((nI (8 * k) &&& 31).toBitVec.smod 32).toNat = 8 * k := by decide +kernel
theorem qx_ib {n k : Nat} (hn : n < 2 ^ 31) (hk : k < 4) : md_ib n k = md_by (lN n) k := by
  rw [qx_mby (by omega)]
  unfold md_ib
  rw [pk_shrN hn _ (8 * k) (qx_s8 k hk), qx_andN]
/-! words -/
def qx_w (B : Nat → Nat) (i : Nat) : Nat → Nat
  | 0 => 0
  | m + 1 => qx_w B i m + B (i + m) * 2 ^ (8 * m)
theorem qx_w_lt {B : Nat → Nat} (hB : ∀ i, B i < 256) (i : Nat) : ∀ m, qx_w B i m < 2 ^ (8 * m)
  | 0 => by simp [qx_w]
  | m + 1 => by
    have h1 := qx_w_lt hB i m
    have h2 := hB (i + m)
    rw [qx_w, show 8 * (m + 1) = 8 * m + 8 by omega, Nat.pow_add]
    generalize 2 ^ (8 * m) = P at h1 ⊢
    have h3 : B (i + m) * P ≤ 255 * P := Nat.mul_le_mul_right _ (by omega)
    omega
theorem qx_w_hd (B : Nat → Nat) (i : Nat) : ∀ m, qx_w B i (m + 1) = B i + 256 * qx_w B (i + 1) m
  | 0 => by simp [qx_w]
  | m + 1 => by
    rw [qx_w, qx_w_hd B i m, qx_w, show i + 1 + m = i + (m + 1) by omega, show 8 * (m + 1) = 8 + 8 * m by omega, Nat.pow_add]
    generalize 2 ^ (8 * m) = P
    have := Nat.mul_left_comm (B (i + (m + 1))) (2 ^ 8) P
    omega
theorem qx_wa {f : Nat → Int32} {B : Nat → Nat} {e : Nat} (hB : ∀ i, B i < 256) : ∀ t, t ≤ 8 → t ≤ e → (∀ i, e - t ≤ i → i < e → f i &&& nI 255 = nI (B i)) → bz_wa f e t = lN (qx_w B (e - t) t)
  | 0, _, _, _ => rfl
  | t + 1, h8, he, hf => by
    have ih := qx_wa hB t (by omega) (by omega) (fun i h1 h2 => hf i (by omega) h2)
    have h1 := qx_w_lt hB (e - t) t
    have h2 : 2 ^ (8 * t) ≤ 2 ^ 56 := Nat.pow_le_pow_right (by decide) (by omega)
    have h3 := hB (e - t - 1)
    rw [bz_wa, ih, hf (e - t - 1) (by omega) (by omega), nI_l (n := B (e - t - 1)) (by omega), wb_shl _ (by decide), show e - (t + 1) = e - t - 1 by omega, qx_w_hd, show e - t - 1 + 1 = e - t by omega]
    rw [qx_or (k := 8) h3 (by omega)]
    congr 1
    omega
theorem qx_mw {bt : Nat → Int32} {B : Nat → Nat} (hb : ∀ i, bt i = nI (B i)) (hB : ∀ i, B i < 256) (i : Nat) : ∀ m, m ≤ 8 → md_w bt i m = lN (qx_w B i m)
  | 0, _ => rfl
  | m + 1, h => by
    have h0 := hB (i + m)
    rw [md_w, qx_mw hb hB i m (by omega), hb (i + m), nI_l (n := B (i + m)) (by omega), wb_shl _ (by omega), qx_w]
    have h1 := qx_w_lt hB i (m + 1)
    rw [qx_w] at h1
    have h2 : 2 ^ (8 * (m + 1)) ≤ 2 ^ 64 := Nat.pow_le_pow_right (by decide) (by omega)
    exact qx_or' (qx_w_lt hB i m) (Nat.lt_of_lt_of_le h1 h2)
theorem qx_w_z {B : Nat → Nat} {i m : Nat} : ∀ k, (∀ b, m ≤ b → b < m + k → B (i + b) = 0) → qx_w B i (m + k) = qx_w B i m
  | 0, _ => rfl
  | k + 1, h => by
    rw [← Nat.add_assoc, qx_w, qx_w_z k (fun b h1 h2 => h b h1 (by omega)), h (m + k) (by omega) (by omega), Nat.zero_mul, Nat.add_zero]
theorem qx_word {f bt : Nat → Int32} {c : Nat} (hb : ∀ i, i < c → f i &&& nI 255 = bt i) (hz : ∀ i, c ≤ i → bt i = nI 0) (s : Nat) : hz_wd f c s = md_w bt s 8 := by
  have hB : ∀ i, (fun i => qx_n (bt i)) i < 256 := fun i => by
    show qx_n (bt i) < 256
    rcases Nat.lt_or_ge i c with h | h
    · rw [← hb i h]; exact qx_and_lt _
    · rw [hz i h, qx_n_nI (by decide)]; decide
  rw [qx_mw (B := fun i => qx_n (bt i)) (fun i => qx_n_eq _) hB s 8 (Nat.le_refl _)]
  unfold hz_wd
  rcases Nat.lt_or_ge s c with h | h
  · have key := qx_wa (f := f) (B := fun i => qx_n (bt i)) (e := min (s + 8) c) hB (min (s + 8) c - s) (by omega) (by omega) (fun i h1 h2 => by rw [hb i (by omega)]; exact qx_n_eq _)
    rw [key, show min (s + 8) c - (min (s + 8) c - s) = s by omega]
    have hw := qx_w_z (B := fun i => qx_n (bt i)) (i := s) (m := min (s + 8) c - s) (8 - (min (s + 8) c - s)) (fun b h1 h2 => by show qx_n (bt (s + b)) = 0; rw [hz (s + b) (by omega), qx_n_nI (by decide)])
    rw [show min (s + 8) c - s + (8 - (min (s + 8) c - s)) = 8 by omega] at hw
    rw [hw]
  · rw [show min (s + 8) c - s = 0 by omega]
    have hw := qx_w_z (B := fun i => qx_n (bt i)) (i := s) (m := 0) 8 (fun b h1 h2 => by show qx_n (bt (s + b)) = 0; rw [hz (s + b) (by omega), qx_n_nI (by decide)])
    rw [Nat.zero_add] at hw
    rw [hw]
    rfl
/-! rows of bytes -/
theorem md_cp_in {f g : Nat → Int32} {o n j : Nat} (h1 : o ≤ j) (h2 : j < o + n) : md_cp f o g n j = g (j - o) := if_pos ⟨h1, h2⟩
theorem md_cp_out {f g : Nat → Int32} {o n j : Nat} (h : j < o ∨ o + n ≤ j) : md_cp f o g n j = f j := if_neg (fun z => by omega)
/-- the bytes of the one are those of the other -/
def qx_e (p : Nat × (Nat → Int32)) (sz : Nat) (g : Nat → Int32) : Prop := p.1 = sz ∧ ∀ i, i < sz → p.2 i &&& nI 255 = g i
theorem qx_e0 {f g : Nat → Int32} : qx_e (0, f) 0 g := ⟨rfl, fun i h => absurd h (Nat.not_lt_zero i)⟩
theorem qx_ec {p : Nat × (Nat → Int32)} {sz sz' : Nat} {g g' : Nat → Int32} (h : qx_e p sz g) (hs : sz = sz') (hg : ∀ i, i < sz → g i = g' i) : qx_e p sz' g' := by
  subst hs
  exact ⟨h.1, fun i hi => (h.2 i hi).trans (hg i hi)⟩
theorem qx_e_lt {p : Nat × (Nat → Int32)} {sz : Nat} {g : Nat → Int32} (h : qx_e p sz g) {i : Nat} (hi : i < sz) : qx_n (g i) < 256 := by
  rw [← h.2 i hi]; exact qx_and_lt _
theorem qx_ep {p : Nat × (Nat → Int32)} {sz n : Nat} {g g' : Nat → Int32} {x : Int32} (h : qx_e p sz g) (hn : sz < n) (hg : ∀ i, i < sz → g i = g' i) (hx : x &&& nI 255 = g' sz) : qx_e (bz_put n p x) (sz + 1) g' := by
  obtain ⟨c, f⟩ := p
  obtain ⟨h1, h2⟩ := h
  have h1 : c = sz := h1
  subst h1
  unfold bz_put
  rw [if_pos hn]
  refine ⟨rfl, fun i hi => ?_⟩
  show upd f c x.toInt8.toInt32 i &&& nI 255 = g' i
  by_cases e : i = c
  · subst e; rw [pk_us, qx_st, hx]
  · rw [pk_un e, ← hg i (by omega)]; exact h2 i (by omega)
theorem qx_epn {p : Nat × (Nat → Int32)} {sz n : Nat} {g : Nat → Int32} {x : Int64} (h : qx_e p sz g) : ∀ m, m ≤ 8 → sz + m ≤ n → qx_e (bz_pn n p x m) (sz + m) (md_cp g sz (md_by x) m)
  | 0, _, _ => by rw [md_cp_0]; exact h
  | m + 1, h8, hn => by
    rw [bz_pn]
    show qx_e _ (sz + m + 1) _
    refine qx_ep (qx_epn h m (by omega) (by omega)) (by omega) (fun i hi => ?_) ?_
    · by_cases e : sz ≤ i
      · rw [md_cp_in e hi, md_cp_in e (by omega)]
      · rw [md_cp_out (by omega), md_cp_out (by omega)]
    · rw [md_cp_in (by omega) (by omega), show sz + m - sz = m by omega]
      exact qx_by x (by omega)
theorem qx_epa {p : Nat × (Nat → Int32)} {sz n : Nat} {g f b : Nat → Int32} (h : qx_e p sz g) : ∀ m, sz + m ≤ n → (∀ i, i < m → f i &&& nI 255 = b i) → qx_e (bz_pa n p f m) (sz + m) (md_cp g sz b m)
  | 0, _, _ => by rw [md_cp_0]; exact h
  | m + 1, hn, hb => by
    rw [bz_pa]
    show qx_e _ (sz + m + 1) _
    refine qx_ep (qx_epa h m (by omega) (fun i hi => hb i (by omega))) (by omega) (fun i hi => ?_) ?_
    · by_cases e : sz ≤ i
      · rw [md_cp_in e hi, md_cp_in e (by omega)]
      · rw [md_cp_out (by omega), md_cp_out (by omega)]
    · rw [md_cp_in (by omega) (by omega), show sz + m - sz = m by omega, qx_and2]
      exact hb m (by omega)
theorem qx_ezs {p : Nat × (Nat → Int32)} {sz : Nat} {g : Nat → Int32} (h : qx_e p sz g) : ∀ m, sz + m ≤ 1028 → qx_e (bz_zs p m) (sz + m) (md_cp g sz (fun _ => nI 0) m)
  | 0, _ => by rw [md_cp_0]; exact h
  | m + 1, hn => by
    rw [bz_zs]
    show qx_e _ (sz + m + 1) _
    refine qx_ep (qx_ezs h m (by omega)) (by omega) (fun i hi => ?_) ?_
    · by_cases e : sz ≤ i
      · rw [md_cp_in e hi, md_cp_in e (by omega)]
      · rw [md_cp_out (by omega), md_cp_out (by omega)]
    · rw [md_cp_in (by omega) (by omega), qx_andN]
