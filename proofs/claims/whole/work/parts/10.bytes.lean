/-! BYTES: what a Bytes object holds: how many bytes it has, and its array -/
theorem zk_u_self {α : Type} (I : Nat → Nat → α) (k : Nat) : zk_u I k (I k) = I := by funext a; by_cases h : a = k <;> simp [zk_u, h]
theorem zk_u_u {α : Type} (I : Nat → Nat → α) (k : Nat) (f g : Nat → α) : zk_u (zk_u I k f) k g = zk_u I k g := by funext a; by_cases h : a = k <;> simp [zk_u, h]
theorem zk_u_c {α : Type} (I : Nat → Nat → α) {k j : Nat} (h : k ≠ j) (f g : Nat → α) : zk_u (zk_u I k f) j g = zk_u (zk_u I j g) k f := by
  funext a
  by_cases h1 : a = k
  · subst h1; simp [zk_u, h]
  · simp [zk_u, h1]
theorem upd_upd (f : Nat → Int32) (k : Nat) (x y : Int32) : upd (upd f k x) k y = upd f k y := by funext a; by_cases h : a = k <;> simp [upd, h]
theorem upd_self (f : Nat → Int32) (k : Nat) : upd f k (f k) = f := by funext a; by_cases h : a = k <;> simp [upd, h]
def bz_set (I : zk_I) (k k' : Nat) (p : Nat × (Nat → Int32)) : zk_I := zk_u (zk_u I k' p.2) k (upd (I k) 1 (nI p.1))
def bz_put (n : Nat) (p : Nat × (Nat → Int32)) (x : Int32) : Nat × (Nat → Int32) := if p.1 < n then (p.1 + 1, upd p.2 p.1 x.toInt8.toInt32) else p
theorem bz_set_c {I : zk_I} {k k' : Nat} {p : Nat × (Nat → Int32)} : bz_set I k k' p k 1 = nI p.1 := by simp [bz_set, zk_u, upd]
theorem bz_set_f {I : zk_I} {k k' : Nat} {p : Nat × (Nat → Int32)} (h : k' ≠ k) : bz_set I k k' p k' = p.2 := by simp [bz_set, zk_u, h]
theorem bz_set_o {I : zk_I} {k k' a : Nat} {p : Nat × (Nat → Int32)} (h : a ≠ k) (h' : a ≠ k') : bz_set I k k' p a = I a := by simp [bz_set, zk_u, h, h']
theorem bz_set_set {I : zk_I} {k k' : Nat} {p q : Nat × (Nat → Int32)} (h : k' ≠ k) : bz_set (bz_set I k k' p) k k' q = bz_set I k k' q := by
  funext a
  by_cases h1 : a = k
  · subst h1; simp [bz_set, zk_u, upd_upd]
  · by_cases h2 : a = k'
    · subst h2; simp [bz_set, zk_u, h]
    · simp [bz_set, zk_u, h1, h2]
theorem bz_set_same {I : zk_I} {k k' c : Nat} (h : I k 1 = nI c) : bz_set I k k' (c, I k') = I := by
  unfold bz_set
  rw [zk_u_self, ← h, upd_self, zk_u_self]
theorem bz_put_le {n : Nat} {p : Nat × (Nat → Int32)} {x : Int32} (h : p.1 ≤ n) : (bz_put n p x).1 ≤ n := by
  unfold bz_put; split
  · show p.1 + 1 ≤ n; omega
  · exact h
/-- a byte of a number -/
def bz_by (x : Int64) (i : Nat) : Int32 := (x.toUInt64 >>> ((nI (8 * i)).toInt64.toUInt64 &&& Int64.toUInt64 63)).toInt64.toInt32
def bz_pn (n : Nat) (p : Nat × (Nat → Int32)) (x : Int64) : Nat → Nat × (Nat → Int32)
  | 0 => p
  | i + 1 => bz_put n (bz_pn n p x i) (bz_by x i)
def bz_pa (n : Nat) (p : Nat × (Nat → Int32)) (g : Nat → Int32) : Nat → Nat × (Nat → Int32)
  | 0 => p
  | i + 1 => bz_put n (bz_pa n p g i) (g i &&& nI 255)
theorem bz_pn_le {n : Nat} {p : Nat × (Nat → Int32)} {x : Int64} (h : p.1 ≤ n) : ∀ i, (bz_pn n p x i).1 ≤ n
  | 0 => h
  | i + 1 => bz_put_le (bz_pn_le h i)
theorem bz_pa_le {n : Nat} {p : Nat × (Nat → Int32)} {g : Nat → Int32} (h : p.1 ≤ n) : ∀ i, (bz_pa n p g i).1 ≤ n
  | 0 => h
  | i + 1 => bz_put_le (bz_pa_le h i)
/-- a word, from byte e down -/
def bz_wa (f : Nat → Int32) (e : Nat) : Nat → Int64
  | 0 => lN 0
  | t + 1 => (bz_wa f e t <<< ((nI 8).toInt64 &&& 63)) ||| (f (e - t - 1) &&& nI 255).toInt64
abbrev bz_ok (k k' n : Nat) : Prop := k < zk_N 0 ∧ k' < zk_N 0 ∧ zk_sh 0 k = .inr (.inl (0, [some k', none])) ∧ zk_sh 0 k' = .inl (1, n) ∧ n < 65536
theorem bz_ne {k k' n : Nat} (h : bz_ok k k' n) : k' ≠ k := fun e => by have h1 := h.2.2.1; rw [← e, h.2.2.2.1] at h1; cases h1

set_option maxHeartbeats 4000000 in
set_option maxRecDepth 100000 in
theorem c_X0_empty (X : zk_X) (I : zk_I) (J : zk_J) {k k' n : Nat} (hb : bz_ok k k' n) : zk_M 0 X yX0_empty cX0_empty 1 none (0, 0) [.ref (zk_ad X k)] I J none (zk_u I k (upd (I k) 1 (nI 0))) J := by
  obtain ⟨hk, hk', hs, hs', hn⟩ := hb
  refine zk_M.intro (by decide) (lv := [some (.ref (zk_ad X k))]) rfl rfl (fun E hC hR => ?_)
  refine zk_aload_n (pc' := 1) hC rfl ⟨dX0_empty_0, rfl⟩ ?_
  refine zk_iconst (pc' := 2) (x := nI 0) hC ⟨dX0_empty_1, rfl⟩ zc_iconst_0 ?_
  refine zk_puti (pc' := 5) hC fl_X0_21 fp_X0_1 (by first | decide | assumption | omega) (by first | rfl | assumption) rfl rfl rfl ⟨dX0_empty_2, rfl⟩ ?_
  exact zk_vret (pc' := 6) hC hR rfl rfl rfl ⟨dX0_empty_5, rfl⟩

def bz_at (c : Nat) (f : Nat → Int32) (x : Int32) : Int32 := if x < 0 then -1 else if nI c ≤ x then -1 else f x.toNatClampNeg &&& nI 255

set_option maxHeartbeats 4000000 in
set_option maxRecDepth 100000 in
theorem c_X0_byteAt (X : zk_X) (I : zk_I) (J : zk_J) {k k' n c : Nat} (hb : bz_ok k k' n) (x : Int32) (hc : I k 1 = nI c) (hcn : c ≤ n) : zk_M 0 X yX0_byteAt cX0_byteAt 2 ((some .int)) (0, 0) [.ref (zk_ad X k), .int x] I J (some (.int (bz_at c (I k') x))) I J := by
  obtain ⟨hk, hk', hs, hs', hn⟩ := hb
  refine zk_M.intro (by decide) (lv := [some (.ref (zk_ad X k)), some (.int x)]) rfl rfl (fun E hC hR => ?_)
  refine zk_iload_n (pc' := 1) hC rfl ⟨dX0_byteAt_0, rfl⟩ ?_
  refine zk_if_lt (pc' := 4) hC ⟨dX0_byteAt_1, rfl⟩ 25 (by decide) (fun q => ?_) (fun q => ?_)
  · rw [bz_at, if_pos q] at hR
    refine zk_iconst (pc' := 26) (x := (-1 : Int32)) hC ⟨dX0_byteAt_25, rfl⟩ zc_iconst_m1 ?_
    exact zk_iret (pc' := 27) hC hR rfl rfl rfl ⟨dX0_byteAt_26, rfl⟩
  · refine zk_iload_n (pc' := 5) hC rfl ⟨dX0_byteAt_4, rfl⟩ ?_
    refine zk_aload_n (pc' := 6) hC rfl ⟨dX0_byteAt_5, rfl⟩ ?_
    refine zk_geti (pc' := 9) hC fl_X0_21 (by first | decide | assumption | omega) (by first | rfl | assumption) rfl ⟨dX0_byteAt_6, rfl⟩ ?_
    rw [hc]
    refine zk_icmp_ge (pc' := 12) hC ⟨dX0_byteAt_9, rfl⟩ 25 (by decide) (fun q2 => ?_) (fun q2 => ?_)
    · rw [bz_at, if_neg q, if_pos q2] at hR
      refine zk_iconst (pc' := 26) (x := (-1 : Int32)) hC ⟨dX0_byteAt_25, rfl⟩ zc_iconst_m1 ?_
      exact zk_iret (pc' := 27) hC hR rfl rfl rfl ⟨dX0_byteAt_26, rfl⟩
    · rw [bz_at, if_neg q, if_neg q2] at hR
      obtain ⟨j, hj, rfl⟩ := nI_of q
      have hjc : j < c := Nat.not_le.mp fun z => q2 (nI_le z hj)
      rw [nI_clamp hj] at hR
      refine zk_aload_n (pc' := 13) hC rfl ⟨dX0_byteAt_12, rfl⟩ ?_
      refine zk_getr (pc' := 16) hC fl_X0_15 (by first | decide | assumption | omega) (by first | rfl | assumption) rfl ⟨dX0_byteAt_13, rfl⟩ ?_
      refine zk_iload_n (pc' := 17) hC rfl ⟨dX0_byteAt_16, rfl⟩ ?_
      first | refine zk_baldN (pc' := 18) hC (by first | decide | assumption | omega) (by first | rfl | assumption) (by omega) (by first | decide | omega) ⟨dX0_byteAt_17, rfl⟩ ?_
      refine zk_sipush (pc' := 21) (x := nI 255) hC ⟨dX0_byteAt_18, rfl⟩ zc_sipush_255 ?_
      refine zk_iand (pc' := 22) hC ⟨dX0_byteAt_21, rfl⟩ ?_
      refine zk_goto (pc' := 25) hC ⟨dX0_byteAt_22, rfl⟩ 26 (by decide) ?_
      exact zk_iret (pc' := 27) hC hR rfl rfl rfl ⟨dX0_byteAt_26, rfl⟩

theorem upd_i8 (x : Int32) : x.toInt8.toInt32.toInt8.toInt32 = x.toInt8.toInt32 := by simp
set_option maxHeartbeats 4000000 in
set_option maxRecDepth 100000 in
theorem c_X0_put (X : zk_X) (I : zk_I) (J : zk_J) {k k' n c : Nat} (hb : bz_ok k k' n) (x : Int32) (hc : I k 1 = nI c) (hcn : c ≤ n) : zk_M 0 X yX0_put cX0_put 2 none (0, 0) [.ref (zk_ad X k), .int x] I J none (bz_set I k k' (bz_put n (c, I k') x)) J := by
  have bz_ne0 := (bz_ne hb).symm
  obtain ⟨hk, hk', hs, hs', hn⟩ := hb
  refine zk_M.intro (by decide) (lv := [some (.ref (zk_ad X k)), some (.int x)]) rfl rfl (fun E hC hR => ?_)
  refine zk_aload_n (pc' := 1) hC rfl ⟨dX0_put_0, rfl⟩ ?_
  refine zk_geti (pc' := 4) hC fl_X0_21 (by first | decide | assumption | omega) (by first | rfl | assumption) rfl ⟨dX0_put_1, rfl⟩ ?_
  rw [hc]
  refine zk_aload_n (pc' := 5) hC rfl ⟨dX0_put_4, rfl⟩ ?_
  refine zk_getr (pc' := 8) hC fl_X0_15 (by first | decide | assumption | omega) (by first | rfl | assumption) rfl ⟨dX0_put_5, rfl⟩ ?_
  refine zk_alen (pc' := 9) hC (by first | decide | assumption | omega) (by first | rfl | assumption) (by decide) ⟨dX0_put_8, rfl⟩ ?_
  refine zk_icmp_geN (pc' := 12) hC ⟨dX0_put_9, rfl⟩ 33 (by decide) (by omega) (by omega) (fun q => ?_) (fun q => ?_)
  · exact zk_vret (pc' := 34) hC hR rfl (by rw [bz_put, if_neg (Nat.not_lt.mpr q)]; exact bz_set_same hc) rfl ⟨dX0_put_33, rfl⟩
  · refine zk_aload_n (pc' := 13) hC rfl ⟨dX0_put_12, rfl⟩ ?_
    refine zk_getr (pc' := 16) hC fl_X0_15 (by first | decide | assumption | omega) (by first | rfl | assumption) rfl ⟨dX0_put_13, rfl⟩ ?_
    refine zk_aload_n (pc' := 17) hC rfl ⟨dX0_put_16, rfl⟩ ?_
    refine zk_geti (pc' := 20) hC fl_X0_21 (by first | decide | assumption | omega) (by first | rfl | assumption) rfl ⟨dX0_put_17, rfl⟩ ?_
    rw [hc]
    refine zk_iload_n (pc' := 21) hC rfl ⟨dX0_put_20, rfl⟩ ?_
    refine zk_i2b (pc' := 22) hC ⟨dX0_put_21, rfl⟩ ?_
    first | refine zk_bastN (pc' := 23) hC (by first | decide | assumption | omega) (by first | rfl | assumption) (by omega) (by first | decide | omega) ⟨dX0_put_22, rfl⟩ ?_
    refine zk_aload_n (pc' := 24) hC rfl ⟨dX0_put_23, rfl⟩ ?_
    refine zk_dup (pc' := 25) hC ⟨dX0_put_24, rfl⟩ rfl ?_
    refine zk_geti (pc' := 28) hC fl_X0_21 (by first | decide | assumption | omega) (by first | rfl | assumption) rfl ⟨dX0_put_25, rfl⟩ ?_
    rw [zk_u_n (bz_ne0), hc]
    refine zk_iconst (pc' := 29) (x := nI 1) hC ⟨dX0_put_28, rfl⟩ zc_iconst_1 ?_
    first | refine zk_iaddN (pc' := 30) hC ⟨dX0_put_29, rfl⟩ ?_ | refine zk_iadd (pc' := 30) hC ⟨dX0_put_29, rfl⟩ ?_
    refine zk_puti (pc' := 33) hC fl_X0_21 fp_X0_1 (by first | decide | assumption | omega) (by first | rfl | assumption) rfl rfl rfl ⟨dX0_put_30, rfl⟩ ?_
    exact zk_vret (pc' := 34) hC hR rfl (by rw [bz_put, if_pos q]; simp only [bz_set]; rw [zk_u_n bz_ne0, upd_i8]) rfl ⟨dX0_put_33, rfl⟩

set_option maxHeartbeats 4000000 in
set_option maxRecDepth 100000 in
theorem c_X0_putNumber (X : zk_X) (I : zk_I) (J : zk_J) {k k' n c q : Nat} (hb : bz_ok k k' n) (x : Int64) (mm : Int32) (hm : (mm = nI q ∧ q < 2 ^ 31) ∨ (mm < 0 ∧ q = 0)) (hc : I k 1 = nI c) (hcn : c ≤ n) : zk_M 0 X yX0_putNumber cX0_putNumber 5 none (1, 21) [.ref (zk_ad X k), .long x, .int mm] I J none (bz_set I k k' (bz_pn n (c, I k') x q)) J := by
  refine zk_M.intro (by decide) (lv := [some (.ref (zk_ad X k)), some (.long x), none, some (.int mm), none]) rfl rfl (fun E hC hR => ?_)
  refine zk_iconst (pc' := 1) (x := nI 0) hC ⟨dX0_putNumber_0, rfl⟩ zc_iconst_0 ?_
  refine zk_is4 (pc' := 3) hC ⟨dX0_putNumber_1, rfl⟩ rfl ?_
  have hn1 := bz_ne hb
  refine zk_cast (I' := bz_set I k k' (bz_pn n (c, I k') x 0)) (J' := J) ?_ (bz_set_same hc).symm rfl
  refine zk_up (P := fun i => zk_A 0 X E 3 [some (.ref (zk_ad X k)), some (.long x), none, some (.int mm), some (.int (nI i))] [] (bz_set I k k' (bz_pn n (c, I k') x i)) J) q ?_ (fun i hi ih => ?_)
  · skip
    refine zk_iload (pc' := 5) hC rfl ⟨dX0_putNumber_3, rfl⟩ ?_
    refine zk_iload_n (pc' := 6) hC rfl ⟨dX0_putNumber_5, rfl⟩ ?_
    refine zk_icmp_ge (pc' := 9) hC ⟨dX0_putNumber_6, rfl⟩ 27 (by decide) (fun q2 => ?_) (fun q2 => ?_)
    · exact zk_vret (pc' := 28) hC hR rfl rfl rfl ⟨dX0_putNumber_27, rfl⟩
    · exfalso
      rcases hm with ⟨rfl, hq⟩ | ⟨hm, rfl⟩
      · exact q2 (nI_le (Nat.le_refl q) hq)
      · exact q2 (by rw [nI_0]; exact Int32.le_of_lt hm)
  · skip
    obtain ⟨rfl, hq⟩ : mm = nI q ∧ q < 2 ^ 31 := by
      rcases hm with h | ⟨-, rfl⟩
      · exact h
      · omega
    refine zk_iload (pc' := 5) hC rfl ⟨dX0_putNumber_3, rfl⟩ ?_
    refine zk_iload_n (pc' := 6) hC rfl ⟨dX0_putNumber_5, rfl⟩ ?_
    refine zk_icmp_geN (pc' := 9) hC ⟨dX0_putNumber_6, rfl⟩ 27 (by decide) (by omega) (by omega) (fun q2 => ?_) (fun q2 => ?_)
    · omega
    · refine zk_aload_n (pc' := 10) hC rfl ⟨dX0_putNumber_9, rfl⟩ ?_
      refine zk_lload_n (pc' := 11) hC rfl ⟨dX0_putNumber_10, rfl⟩ ?_
      refine zk_bipush (pc' := 13) (x := nI 8) hC ⟨dX0_putNumber_11, rfl⟩ zc_bipush_8 ?_
      refine zk_iload (pc' := 15) hC rfl ⟨dX0_putNumber_13, rfl⟩ ?_
      first | refine zk_imulN (pc' := 16) hC ⟨dX0_putNumber_15, rfl⟩ ?_ | refine zk_imul (pc' := 16) hC ⟨dX0_putNumber_15, rfl⟩ ?_
      refine zk_lushr (pc' := 17) hC ⟨dX0_putNumber_16, rfl⟩ ?_
      refine zk_l2i (pc' := 18) hC ⟨dX0_putNumber_17, rfl⟩ ?_
      refine zk_callV0 (pc' := 21) hC ml_X0_28 mi_X0_put (c_X0_put X (bz_set I k k' (bz_pn n (c, I k') x i)) J hb (bz_by x i) bz_set_c (bz_pn_le hcn i)) (by decide) hb.1 hb.2.2.1 rfl rfl rfl (Nat.le_of_ble_eq_true rfl) ⟨dX0_putNumber_18, rfl⟩ ?_
      refine zk_cast (I' := bz_set I k k' (bz_pn n (c, I k') x (i + 1))) (J' := J) ?_ (by rw [bz_set_f hn1, bz_set_set hn1]; rfl) rfl
      first | refine zk_in4 (pc' := 24) hC ⟨dX0_putNumber_21, rfl⟩ ?_ | refine zk_iincG (pc' := 24) hC ⟨dX0_putNumber_21, rfl⟩ rfl ?_
      refine zk_goto (pc' := 27) hC ⟨dX0_putNumber_24, rfl⟩ 3 (by decide) ?_
      exact ih

set_option maxHeartbeats 4000000 in
set_option maxRecDepth 100000 in
theorem c_X0_putAll (X : zk_X) (I : zk_I) (J : zk_J) {k k' n c o o' n2 e : Nat} (hb : bz_ok k k' n) (hb2 : bz_ok o o' n2) (hok : o ≠ k) (hok' : o' ≠ k') (hc : I k 1 = nI c) (hcn : c ≤ n) (he : I o 1 = nI e) (hen : e ≤ n2) : zk_M 0 X yX0_putAll cX0_putAll 3 none (1, 21) [.ref (zk_ad X k), .ref (zk_ad X o)] I J none (bz_set I k k' (bz_pa n (c, I k') (I o') e)) J := by
  refine zk_M.intro (by decide) (lv := [some (.ref (zk_ad X k)), some (.ref (zk_ad X o)), none]) rfl rfl (fun E hC hR => ?_)
  refine zk_iconst (pc' := 1) (x := nI 0) hC ⟨dX0_putAll_0, rfl⟩ zc_iconst_0 ?_
  refine zk_is2 (pc' := 2) hC ⟨dX0_putAll_1, rfl⟩ rfl ?_
  have hn1 := bz_ne hb
  have hn2 := bz_ne hb2
  have ho1 : o ≠ k' := fun e => by have h1 := hb2.2.2.1; rw [e, hb.2.2.2.1] at h1; cases h1
  have ho2 : o' ≠ k := fun e => by have h1 := hb2.2.2.2.1; rw [e, hb.2.2.1] at h1; cases h1
  have hd2 := hb2.2.2.2.2
  refine zk_cast (I' := bz_set I k k' (bz_pa n (c, I k') (I o') 0)) (J' := J) ?_ (bz_set_same hc).symm rfl
  refine zk_up (P := fun i => zk_A 0 X E 2 [some (.ref (zk_ad X k)), some (.ref (zk_ad X o)), some (.int (nI i))] [] (bz_set I k k' (bz_pa n (c, I k') (I o') i)) J) e ?_ (fun i hi ih => ?_)
  · skip
    obtain ⟨hk2, hk2', hs2, hs2', hnn2⟩ := hb2
    refine zk_iload_n (pc' := 3) hC rfl ⟨dX0_putAll_2, rfl⟩ ?_
    refine zk_aload_n (pc' := 4) hC rfl ⟨dX0_putAll_3, rfl⟩ ?_
    refine zk_geti (pc' := 7) hC fl_X0_21 (by first | decide | assumption | omega) (by first | rfl | assumption) rfl ⟨dX0_putAll_4, rfl⟩ ?_
    rw [bz_set_o hok ho1, he]
    refine zk_icmp_geN (pc' := 10) hC ⟨dX0_putAll_7, rfl⟩ 25 (by decide) (by omega) (by omega) (fun q2 => ?_) (fun q2 => ?_)
    · exact zk_vret (pc' := 26) hC hR rfl rfl rfl ⟨dX0_putAll_25, rfl⟩
    · omega
  · skip
    have hb2' := hb2
    obtain ⟨hk2, hk2', hs2, hs2', hnn2⟩ := hb2'
    refine zk_iload_n (pc' := 3) hC rfl ⟨dX0_putAll_2, rfl⟩ ?_
    refine zk_aload_n (pc' := 4) hC rfl ⟨dX0_putAll_3, rfl⟩ ?_
    refine zk_geti (pc' := 7) hC fl_X0_21 (by first | decide | assumption | omega) (by first | rfl | assumption) rfl ⟨dX0_putAll_4, rfl⟩ ?_
    rw [bz_set_o hok ho1, he]
    refine zk_icmp_geN (pc' := 10) hC ⟨dX0_putAll_7, rfl⟩ 25 (by decide) (by omega) (by omega) (fun q2 => ?_) (fun q2 => ?_)
    · omega
    · refine zk_aload_n (pc' := 11) hC rfl ⟨dX0_putAll_10, rfl⟩ ?_
      refine zk_aload_n (pc' := 12) hC rfl ⟨dX0_putAll_11, rfl⟩ ?_
      refine zk_iload_n (pc' := 13) hC rfl ⟨dX0_putAll_12, rfl⟩ ?_
      refine zk_callV1 (pc' := 16) hC ml_X0_32 mi_X0_byteAt (c_X0_byteAt X (bz_set I k k' (bz_pa n (c, I k') (I o') i)) J hb2 (nI i) (by rw [bz_set_o hok ho1]; exact he) hen) (by decide) hb2.1 hb2.2.2.1 rfl rfl rfl (Nat.le_of_ble_eq_true rfl) ⟨dX0_putAll_13, rfl⟩ ?_
      rw [bz_set_o ho2 hok', bz_at, if_neg (nI_pos (by omega)), if_neg (nI_ge hi (by omega)), nI_clamp (by omega)]
      refine zk_callV0 (pc' := 19) hC ml_X0_28 mi_X0_put (c_X0_put X (bz_set I k k' (bz_pa n (c, I k') (I o') i)) J hb (I o' i &&& nI 255) bz_set_c (bz_pa_le hcn i)) (by decide) hb.1 hb.2.2.1 rfl rfl rfl (Nat.le_of_ble_eq_true rfl) ⟨dX0_putAll_16, rfl⟩ ?_
      refine zk_cast (I' := bz_set I k k' (bz_pa n (c, I k') (I o') (i + 1))) (J' := J) ?_ (by rw [bz_set_f hn1, bz_set_set hn1]; rfl) rfl
      first | refine zk_in2 (pc' := 22) hC ⟨dX0_putAll_19, rfl⟩ ?_ | refine zk_iincG (pc' := 22) hC ⟨dX0_putAll_19, rfl⟩ rfl ?_
      refine zk_goto (pc' := 25) hC ⟨dX0_putAll_22, rfl⟩ 2 (by decide) ?_
      exact ih

set_option maxHeartbeats 4000000 in
set_option maxRecDepth 100000 in
theorem c_X0_become (X : zk_X) (I : zk_I) (J : zk_J) {k k' n o o' n2 e : Nat} (hb : bz_ok k k' n) (hb2 : bz_ok o o' n2) (hok : o ≠ k) (hok' : o' ≠ k') (he : I o 1 = nI e) (hen : e ≤ n2) : zk_M 0 X yX0_become cX0_become 2 none (2, 43) [.ref (zk_ad X k), .ref (zk_ad X o)] I J none (bz_set I k k' (bz_pa n (0, I k') (I o') e)) J := by
  refine zk_M.intro (by decide) (lv := [some (.ref (zk_ad X k)), some (.ref (zk_ad X o))]) rfl rfl (fun E hC hR => ?_)
  refine zk_aload_n (pc' := 1) hC rfl ⟨dX0_become_0, rfl⟩ ?_
  have hn1 := bz_ne hb
  have ho1 : o ≠ k' := fun e => by have h1 := hb2.2.2.1; rw [e, hb.2.2.2.1] at h1; cases h1
  have ho2 : o' ≠ k := fun e => by have h1 := hb2.2.2.2.1; rw [e, hb.2.2.1] at h1; cases h1
  refine zk_callV0 (pc' := 4) hC ml_X0_36 mi_X0_empty (c_X0_empty X I J hb) (by decide) hb.1 hb.2.2.1 rfl rfl rfl (Nat.le_of_ble_eq_true rfl) ⟨dX0_become_1, rfl⟩ ?_
  refine zk_aload_n (pc' := 5) hC rfl ⟨dX0_become_4, rfl⟩ ?_
  refine zk_aload_n (pc' := 6) hC rfl ⟨dX0_become_5, rfl⟩ ?_
  refine zk_cast (I' := bz_set I k k' (0, I k')) (J' := J) ?_ (by rw [bz_set, zk_u_self]) rfl
  refine zk_callV0 (pc' := 9) hC ml_X0_39 mi_X0_putAll (c_X0_putAll X (bz_set I k k' (0, I k')) J hb hb2 hok hok' bz_set_c (Nat.zero_le n) (by rw [bz_set_o hok ho1]; exact he) hen) (by decide) hb.1 hb.2.2.1 rfl rfl rfl (Nat.le_of_ble_eq_true rfl) ⟨dX0_become_6, rfl⟩ ?_
  exact zk_vret (pc' := 10) hC hR rfl (by rw [bz_set_set hn1, bz_set_f hn1, bz_set_o ho2 hok']) rfl ⟨dX0_become_9, rfl⟩

