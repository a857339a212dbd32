/-! THE REFERENCE: its numbers -/
def md_g (g0 : Nat → Int32) (th ks sz bg kd ln ps tg sc dn : Nat) : Nat → Int32 := fun j => match j with
  | 0 => nI th
  | 3 => nI ks
  | 5 => nI sz
  | 11 => nI bg
  | 12 => nI kd
  | 13 => nI ln
  | 14 => nI ps
  | 15 => nI tg
  | 16 => nI sc
  | 17 => nI dn
  | j => g0 j

theorem md_p0 {g0 : Nat → Int32} {th ks sz bg kd ln ps tg sc dn x : Nat} : upd (md_g g0 th ks sz bg kd ln ps tg sc dn) 0 (nI x) = md_g g0 x ks sz bg kd ln ps tg sc dn := by
  funext j
  by_cases h : j = 0
  · subst h; simp [upd, md_g]
  · simp only [upd, h, if_false]
    unfold md_g
    split <;> first | rfl | (exfalso; exact h rfl)
theorem md_p3 {g0 : Nat → Int32} {th ks sz bg kd ln ps tg sc dn x : Nat} : upd (md_g g0 th ks sz bg kd ln ps tg sc dn) 3 (nI x) = md_g g0 th x sz bg kd ln ps tg sc dn := by
  funext j
  by_cases h : j = 3
  · subst h; simp [upd, md_g]
  · simp only [upd, h, if_false]
    unfold md_g
    split <;> first | rfl | (exfalso; exact h rfl)
theorem md_p5 {g0 : Nat → Int32} {th ks sz bg kd ln ps tg sc dn x : Nat} : upd (md_g g0 th ks sz bg kd ln ps tg sc dn) 5 (nI x) = md_g g0 th ks x bg kd ln ps tg sc dn := by
  funext j
  by_cases h : j = 5
  · subst h; simp [upd, md_g]
  · simp only [upd, h, if_false]
    unfold md_g
    split <;> first | rfl | (exfalso; exact h rfl)
theorem md_p11 {g0 : Nat → Int32} {th ks sz bg kd ln ps tg sc dn x : Nat} : upd (md_g g0 th ks sz bg kd ln ps tg sc dn) 11 (nI x) = md_g g0 th ks sz x kd ln ps tg sc dn := by
  funext j
  by_cases h : j = 11
  · subst h; simp [upd, md_g]
  · simp only [upd, h, if_false]
    unfold md_g
    split <;> first | rfl | (exfalso; exact h rfl)
theorem md_p12 {g0 : Nat → Int32} {th ks sz bg kd ln ps tg sc dn x : Nat} : upd (md_g g0 th ks sz bg kd ln ps tg sc dn) 12 (nI x) = md_g g0 th ks sz bg x ln ps tg sc dn := by
  funext j
  by_cases h : j = 12
  · subst h; simp [upd, md_g]
  · simp only [upd, h, if_false]
    unfold md_g
    split <;> first | rfl | (exfalso; exact h rfl)
theorem md_p13 {g0 : Nat → Int32} {th ks sz bg kd ln ps tg sc dn x : Nat} : upd (md_g g0 th ks sz bg kd ln ps tg sc dn) 13 (nI x) = md_g g0 th ks sz bg kd x ps tg sc dn := by
  funext j
  by_cases h : j = 13
  · subst h; simp [upd, md_g]
  · simp only [upd, h, if_false]
    unfold md_g
    split <;> first | rfl | (exfalso; exact h rfl)
theorem md_p14 {g0 : Nat → Int32} {th ks sz bg kd ln ps tg sc dn x : Nat} : upd (md_g g0 th ks sz bg kd ln ps tg sc dn) 14 (nI x) = md_g g0 th ks sz bg kd ln x tg sc dn := by
  funext j
  by_cases h : j = 14
  · subst h; simp [upd, md_g]
  · simp only [upd, h, if_false]
    unfold md_g
    split <;> first | rfl | (exfalso; exact h rfl)
theorem md_p15 {g0 : Nat → Int32} {th ks sz bg kd ln ps tg sc dn x : Nat} : upd (md_g g0 th ks sz bg kd ln ps tg sc dn) 15 (nI x) = md_g g0 th ks sz bg kd ln ps x sc dn := by
  funext j
  by_cases h : j = 15
  · subst h; simp [upd, md_g]
  · simp only [upd, h, if_false]
    unfold md_g
    split <;> first | rfl | (exfalso; exact h rfl)
theorem md_p16 {g0 : Nat → Int32} {th ks sz bg kd ln ps tg sc dn x : Nat} : upd (md_g g0 th ks sz bg kd ln ps tg sc dn) 16 (nI x) = md_g g0 th ks sz bg kd ln ps tg x dn := by
  funext j
  by_cases h : j = 16
  · subst h; simp [upd, md_g]
  · simp only [upd, h, if_false]
    unfold md_g
    split <;> first | rfl | (exfalso; exact h rfl)
theorem md_p17 {g0 : Nat → Int32} {th ks sz bg kd ln ps tg sc dn x : Nat} : upd (md_g g0 th ks sz bg kd ln ps tg sc dn) 17 (nI x) = md_g g0 th ks sz bg kd ln ps tg sc x := by
  funext j
  by_cases h : j = 17
  · subst h; simp [upd, md_g]
  · simp only [upd, h, if_false]
    unfold md_g
    split <;> first | rfl | (exfalso; exact h rfl)
section ZW
variable {p : Program} {l : Launch} {e : Env} {R : Room} {s : State} {m : MethodId} {args : Array Value} {below : List Frame} {meth : Method} {c : Code} {H : Heap} {locs : List Loc} {cells slots : Nat} {Q : State → Prop}
variable {cc : ByteArray} {pc : Nat} {ls : Array Slot} {rest : List Value}
/-- iinc in its wide form -/
theorem zk_lv_iincW (hexec : p.tables.exec = Jvm.exec) (hb : c.code = cc) {i nL k : Nat} {n : Int} {x v : Int32} {lv lv' : List (Nat × Value)} (hdg : decode cc pc = .ok (.iinc i n, 6)) (h : lv_has ls nL lv) (hk : lv[k]? = some (i, .int x)) (hv : x + Int32.ofInt n = v) (hn : i < nL) (hl : (i, Value.int v) :: lv.filter (fun q => !(q.1 == i) && !(q.1 + 1 == i && q.2.category == 2)) = lv')
    (kk : ∀ ls' : Array Slot, lv_has ls' nL lv' → W p l e R s m args below meth c H locs cells slots Q (F0 m (pc + 6) ls' rest)) : W p l e R s m args below meth c H locs cells slots Q (F0 m pc ls rest) := by
  subst hv
  have hg := lv_at h k hk
  obtain ⟨ls', e', h'⟩ := lv_store1 (v := .int (x + Int32.ofInt n)) h hn rfl
  intro T hT X
  obtain ⟨t, a, b⟩ := kk ls' (hl ▸ h') T hT X
  refine ⟨t, ?_, b⟩
  jvm_step X.here [X.here.top, ↓top_set X.here.top, hexec, hb, hdg, hg, e']
  exact a
end ZW
section ZX
variable {v : Nat} {X : zk_X} {E : zk_E} {own : String} {cc : ByteArray} {dep : Nat × Nat} {pc pc' : Nat} {lv : List (Option Value)} {st : List Value} {I I' : zk_I} {J J' : zk_J}
theorem zk_iincW {k : Nat} {n : Int} {x : Int32} (h : zk_C v X E own cc dep) (d : zk_D cc pc pc' (.iinc k n) 6) (hx : lv[k]? = some (some (.int x))) (kk : zk_A v X E pc' (lv.set k (some (.int (x + Int32.ofInt n)))) st I J) : zk_A v X E pc lv st I J := by
  obtain ⟨p, e, R, s, m, args, below, meth, c, cells, slots, Q⟩ := E
  obtain ⟨d, rfl⟩ := d
  intro ls H locs hn hl hP hS
  have hk : k < lv.length := (List.getElem?_eq_some_iff.mp hx).1
  obtain ⟨j, hj⟩ := List.getElem?_of_mem (zk_lv_in lv 0 k _ hx)
  rw [Nat.zero_add] at hj
  refine zk_lv_iincW h.1 h.2.1 d hl hj rfl (by rw [← hn]; exact hk) rfl (fun ls' hl' => kk ls' H locs (by rw [List.length_set]; exact hn) (zk_lv_st1 hk ?_ hl') hP hS)
  by_cases h0 : k = 0
  · exact Or.inl h0
  · right
    cases hz : lv[k - 1]? with
    | none => rfl
    | some o =>
      cases o with
      | none => rfl
      | some y =>
        have hy := zk_lv_at hl hz
        have hx2 := zk_lv_at hl hx
        by_cases hc : y.category = 2
        · have := hl.2.1.1 _ _ hy hc
          rw [show k - 1 + 1 = k by omega, hx2] at this
          cases this
        · simp [zk_n2, hc]
end ZX
theorem md_if {a b : Prop} [Decidable a] [Decidable b] (h : a ↔ b) : (if a then 1 else 0 : Nat) = if b then 1 else 0 := by
  by_cases hb : b
  · rw [if_pos (h.mpr hb), if_pos hb]
  · rw [if_neg (fun z => hb (h.mp z)), if_neg hb]
abbrev md_in (x lo hi : Int32) : Prop := ¬ x < lo ∧ ¬ hi < x
theorem md_in7 (x : Int32) : md_in x (nI 0) (nI 7) ↔ is_r x := by
  unfold md_in is_r
  rw [nI_0]
  refine and_congr_right (fun h => not_congr ?_)
  rw [Int32.lt_iff_toInt_lt, Int32.le_iff_toInt_le, nI_toInt (by decide), nI_toInt (by decide)]
  omega
theorem md_in_nI {a b c : Nat} (ha : a < 2 ^ 31) (hb : b < 2 ^ 31) (hc : c < 2 ^ 31) : md_in (nI a) (nI b) (nI c) ↔ b ≤ a ∧ a ≤ c := by
  unfold md_in
  rw [nI_ltI ha hb, nI_ltI hc ha]
  omega

set_option maxHeartbeats 1000000 in
set_option maxRecDepth 100000 in
theorem c_X5_in (X : zk_X) (I : zk_I) (J : zk_J) (x lo hi : Int32) : zk_M 1 X yX5_in cX5_in 3 ((some .boolean)) (0, 0) [.int x, .int lo, .int hi] I J (some (.int (nI (if md_in x lo hi then 1 else 0)))) I J := by
  refine zk_M.intro (by decide) (lv := [some (.int x), some (.int lo), some (.int hi)]) rfl rfl (fun E hC hR => ?_)
  refine zk_iload_n (pc' := 1) hC rfl ⟨dX5_in_0, rfl⟩ ?_
  refine zk_iload_n (pc' := 2) hC rfl ⟨dX5_in_1, rfl⟩ ?_
  refine zk_icmp_lt (pc' := 5) hC ⟨dX5_in_2, rfl⟩ 14 (by decide) (fun q1 => ?_) (fun q1 => ?_)
  · rw [if_neg (fun h => h.1 q1)] at hR
    refine zk_iconst (pc' := 15) (x := nI 0) hC ⟨dX5_in_14, rfl⟩ zc_iconst_0 ?_
    exact zk_zret (pc' := 16) hC hR rfl rfl rfl rfl ⟨dX5_in_15, rfl⟩
  · refine zk_iload_n (pc' := 6) hC rfl ⟨dX5_in_5, rfl⟩ ?_
    refine zk_iload_n (pc' := 7) hC rfl ⟨dX5_in_6, rfl⟩ ?_
    refine zk_icmp_gt (pc' := 10) hC ⟨dX5_in_7, rfl⟩ 14 (by decide) (fun q2 => ?_) (fun q2 => ?_)
    · rw [if_neg (fun h => h.2 q2)] at hR
      refine zk_iconst (pc' := 15) (x := nI 0) hC ⟨dX5_in_14, rfl⟩ zc_iconst_0 ?_
      exact zk_zret (pc' := 16) hC hR rfl rfl rfl rfl ⟨dX5_in_15, rfl⟩
    · rw [if_pos ⟨q1, q2⟩] at hR
      refine zk_iconst (pc' := 11) (x := nI 1) hC ⟨dX5_in_10, rfl⟩ zc_iconst_1 ?_
      refine zk_goto (pc' := 14) hC ⟨dX5_in_11, rfl⟩ 15 (by decide) ?_
      exact zk_zret (pc' := 16) hC hR rfl rfl rfl rfl ⟨dX5_in_15, rfl⟩

set_option maxHeartbeats 1000000 in
set_option maxRecDepth 100000 in
theorem c_X5_isRegister (X : zk_X) (I : zk_I) (J : zk_J) (x : Int32) : zk_M 1 X yX5_isRegister cX5_isRegister 1 ((some .boolean)) (1, 22) [.int x] I J (some (.int (nI (if is_r x then 1 else 0)))) I J := by
  refine zk_M.intro (by decide) (lv := [some (.int x)]) rfl rfl (fun E hC hR => ?_)
  refine zk_iload_n (pc' := 1) hC rfl ⟨dX5_isRegister_0, rfl⟩ ?_
  refine zk_iconst (pc' := 2) (x := nI 0) hC ⟨dX5_isRegister_1, rfl⟩ zc_iconst_0 ?_
  refine zk_bipush (pc' := 4) (x := nI 7) hC ⟨dX5_isRegister_2, rfl⟩ zc_bipush_7 ?_
  refine zk_callS1 (pc' := 7) hC ml_X5_54 ms_X5_in (c_X5_in X I J x (nI 0) (nI 7)) (by decide) rfl rfl (Nat.le_of_ble_eq_true rfl) ⟨dX5_isRegister_4, rfl⟩ ?_
  rw [md_if (md_in7 x)]
  by_cases h : is_r x
  · rw [if_pos h] at hR ⊢
    exact zk_zret (pc' := 8) hC hR rfl rfl rfl rfl ⟨dX5_isRegister_7, rfl⟩
  · rw [if_neg h] at hR ⊢
    exact zk_zret (pc' := 8) hC hR rfl rfl rfl rfl ⟨dX5_isRegister_7, rfl⟩

/-- thrown = 0 -/
def md_0 (I : zk_I) : zk_I := zk_u I 0 (upd (I 0) 0 (nI 0))
theorem md_0_o {I : zk_I} {a : Nat} (h : a ≠ 0) : md_0 I a = I a := zk_u_n h
theorem md_0_g {I : zk_I} {g0 : Nat → Int32} {th ks sz bg kd ln ps tg sc dn : Nat} (hI : I 0 = md_g g0 th ks sz bg kd ln ps tg sc dn) : md_0 I 0 = md_g g0 0 ks sz bg kd ln ps tg sc dn := by rw [md_0, zk_u_s, hI, md_p0]
/-- a byte of a number, as the reference takes it -/
def md_by (x : Int64) (i : Nat) : Int32 := ((x >>> ((nI (8 * i)).toInt64 &&& 63)) &&& 255).toInt32

set_option maxHeartbeats 1000000 in
set_option maxRecDepth 100000 in
theorem c_X5_add_bad (X : zk_X) (I : zk_I) (J : zk_J) (r n : Int32) (w : Int64) (hbad : ¬ (is_r r ∧ ¬ n < nI 1 ∧ ¬ nI 8 < n)) : zk_M 1 X yX5_add cX5_add 6 ((some .int)) (2, 42) [.ref (zk_ad X 0), .int r, .int n, .long w] I J (some (.int (-2))) (md_0 I) J := by
  refine zk_M.intro (by decide) (lv := [some (.ref (zk_ad X 0)), some (.int r), some (.int n), some (.long w), none, none]) rfl rfl (fun E hC hR => ?_)
  refine zk_aload_n (pc' := 1) hC rfl ⟨dX5_add_0, rfl⟩ ?_
  refine zk_iconst (pc' := 2) (x := nI 0) hC ⟨dX5_add_1, rfl⟩ zc_iconst_0 ?_
  refine zk_puti (pc' := 5) hC fl_X5_50 fp_X5_0 (by first | decide | assumption | omega) (by first | rfl | assumption) rfl rfl rfl ⟨dX5_add_2, rfl⟩ ?_
  change zk_A 1 X E 5 _ _ (md_0 I) J
  refine zk_iload_n (pc' := 6) hC rfl ⟨dX5_add_5, rfl⟩ ?_
  refine zk_callS1 (pc' := 9) hC ml_X5_58 ms_X5_isRegister (c_X5_isRegister X _ J r) (by decide) rfl rfl (Nat.le_of_ble_eq_true rfl) ⟨dX5_add_6, rfl⟩ ?_
  by_cases h : is_r r
  · skip
    rw [if_pos h]
    refine zk_if_eqN (pc' := 12) hC ⟨dX5_add_9, rfl⟩ 22 (by decide) (by omega) (fun q => ?_) (fun q => ?_)
    · omega
    · refine zk_iload_n (pc' := 13) hC rfl ⟨dX5_add_12, rfl⟩ ?_
      refine zk_iconst (pc' := 14) (x := nI 1) hC ⟨dX5_add_13, rfl⟩ zc_iconst_1 ?_
      refine zk_bipush (pc' := 16) (x := nI 8) hC ⟨dX5_add_14, rfl⟩ zc_bipush_8 ?_
      refine zk_callS1 (pc' := 19) hC ml_X5_54 ms_X5_in (c_X5_in X _ J n (nI 1) (nI 8)) (by decide) rfl rfl (Nat.le_of_ble_eq_true rfl) ⟨dX5_add_16, rfl⟩ ?_
      rw [if_neg (fun z => hbad ⟨h, z.1, z.2⟩)]
      refine zk_if_neN (pc' := 22) hC ⟨dX5_add_19, rfl⟩ 25 (by decide) (by omega) (fun q2 => ?_) (fun q2 => ?_)
      · omega
      · refine zk_bipush (pc' := 24) (x := (-2 : Int32)) hC ⟨dX5_add_22, rfl⟩ zc_bipush_m2 ?_
        exact zk_iret (pc' := 25) hC hR rfl rfl rfl ⟨dX5_add_24, rfl⟩
  · skip
    rw [if_neg h]
    refine zk_if_eqN (pc' := 12) hC ⟨dX5_add_9, rfl⟩ 22 (by decide) (by omega) (fun q => ?_) (fun q => ?_)
    · refine zk_bipush (pc' := 24) (x := (-2 : Int32)) hC ⟨dX5_add_22, rfl⟩ zc_bipush_m2 ?_
      exact zk_iret (pc' := 25) hC hR rfl rfl rfl ⟨dX5_add_24, rfl⟩
    · omega

set_option maxHeartbeats 1000000 in
set_option maxRecDepth 100000 in
theorem c_X5_add_ref (X : zk_X) (I : zk_I) (J : zk_J) {r n c : Nat} (w : Int64) (hr : r < 8) (hn1 : 1 ≤ n) (hn8 : n ≤ 8) (hc : I 1 r = nI c) (hc2 : c ≤ 200) (hcn : 200 < c + n) : zk_M 1 X yX5_add cX5_add 6 ((some .int)) (2, 42) [.ref (zk_ad X 0), .int (nI r), .int (nI n), .long w] I J (some (.int (-3))) (md_0 I) J := by
  refine zk_M.intro (by decide) (lv := [some (.ref (zk_ad X 0)), some (.int (nI r)), some (.int (nI n)), some (.long w), none, none]) rfl rfl (fun E hC hR => ?_)
  have hc0 : md_0 I 1 r = nI c := by rw [md_0_o (by decide)]; exact hc
  refine zk_aload_n (pc' := 1) hC rfl ⟨dX5_add_0, rfl⟩ ?_
  refine zk_iconst (pc' := 2) (x := nI 0) hC ⟨dX5_add_1, rfl⟩ zc_iconst_0 ?_
  refine zk_puti (pc' := 5) hC fl_X5_50 fp_X5_0 (by first | decide | assumption | omega) (by first | rfl | assumption) rfl rfl rfl ⟨dX5_add_2, rfl⟩ ?_
  change zk_A 1 X E 5 _ _ (md_0 I) J
  refine zk_iload_n (pc' := 6) hC rfl ⟨dX5_add_5, rfl⟩ ?_
  refine zk_callS1 (pc' := 9) hC ml_X5_58 ms_X5_isRegister (c_X5_isRegister X _ J (nI r)) (by decide) rfl rfl (Nat.le_of_ble_eq_true rfl) ⟨dX5_add_6, rfl⟩ ?_
  rw [if_pos (is_r_nI hr)]
  refine zk_if_eqN (pc' := 12) hC ⟨dX5_add_9, rfl⟩ 22 (by decide) (by omega) (fun q => ?_) (fun q => ?_)
  · omega
  · refine zk_iload_n (pc' := 13) hC rfl ⟨dX5_add_12, rfl⟩ ?_
    refine zk_iconst (pc' := 14) (x := nI 1) hC ⟨dX5_add_13, rfl⟩ zc_iconst_1 ?_
    refine zk_bipush (pc' := 16) (x := nI 8) hC ⟨dX5_add_14, rfl⟩ zc_bipush_8 ?_
    refine zk_callS1 (pc' := 19) hC ml_X5_54 ms_X5_in (c_X5_in X _ J (nI n) (nI 1) (nI 8)) (by decide) rfl rfl (Nat.le_of_ble_eq_true rfl) ⟨dX5_add_16, rfl⟩ ?_
    rw [if_pos ((md_in_nI (by omega) (by omega) (by omega)).mpr ⟨hn1, hn8⟩)]
    refine zk_if_neN (pc' := 22) hC ⟨dX5_add_19, rfl⟩ 25 (by decide) (by omega) (fun q2 => ?_) (fun q2 => ?_)
    · refine zk_aload_n (pc' := 26) hC rfl ⟨dX5_add_25, rfl⟩ ?_
      refine zk_getr (pc' := 29) hC fl_X5_7 (by first | decide | assumption | omega) (by first | rfl | assumption) rfl ⟨dX5_add_26, rfl⟩ ?_
      refine zk_iload_n (pc' := 30) hC rfl ⟨dX5_add_29, rfl⟩ ?_
      first | refine zk_ialdU (pc' := 31) hC (by first | decide | assumption | omega) (by first | rfl | assumption) (by omega) (by first | decide | omega) ⟨dX5_add_30, rfl⟩ ?_ | refine zk_ialdN (pc' := 31) hC (by first | decide | assumption | omega) (by first | rfl | assumption) (by omega) (by first | decide | omega) ⟨dX5_add_30, rfl⟩ ?_ | refine zk_t0N (pc' := 31) hC (by omega) ⟨dX5_add_30, rfl⟩ ?_ | refine zk_t2N (pc' := 31) hC (by omega) ⟨dX5_add_30, rfl⟩ ?_
      rw [hc0]
      refine zk_iload_n (pc' := 32) hC rfl ⟨dX5_add_31, rfl⟩ ?_
      first | refine zk_iaddN (pc' := 33) hC ⟨dX5_add_32, rfl⟩ ?_ | refine zk_iadd (pc' := 33) hC ⟨dX5_add_32, rfl⟩ ?_
      refine zk_sipush (pc' := 36) (x := nI 200) hC ⟨dX5_add_33, rfl⟩ zc_sipush_200 ?_
      refine zk_icmp_leN (pc' := 39) hC ⟨dX5_add_36, rfl⟩ 42 (by decide) (by omega) (by omega) (fun q3 => ?_) (fun q3 => ?_)
      · omega
      · refine zk_bipush (pc' := 41) (x := (-3 : Int32)) hC ⟨dX5_add_39, rfl⟩ zc_bipush_m3 ?_
        exact zk_iret (pc' := 42) hC hR rfl rfl rfl ⟨dX5_add_41, rfl⟩
    · omega

def md_ab (f : Nat → Int32) (o : Nat) (w : Int64) (n : Nat) : Nat → Int32 := fun j => if o ≤ j ∧ j < o + n then md_by w (j - o) else f j
theorem md_ab_0 (f : Nat → Int32) (o : Nat) (w : Int64) : md_ab f o w 0 = f := by funext j; unfold md_ab; rw [if_neg (by omega)]
theorem md_ab_S (f : Nat → Int32) (o : Nat) (w : Int64) (n : Nat) : upd (md_ab f o w n) (o + n) (md_by w n) = md_ab f o w (n + 1) := by
  funext j
  unfold upd md_ab
  by_cases h : j = o + n
  · subst h; rw [if_pos rfl, if_pos (by omega), show o + n - o = n by omega]
  · rw [if_neg h]
    by_cases h2 : o ≤ j ∧ j < o + n
    · rw [if_pos h2, if_pos (by omega)]
    · rw [if_neg h2, if_neg (by omega)]
def md_add (I : zk_I) (r c : Nat) (w : Int64) (n : Nat) : zk_I := zk_u (zk_u I 2 (md_ab (I 2) (200 * r + c) w n)) 1 (upd (I 1) r (nI (c + n)))
theorem md_add_1 {I : zk_I} {r c n : Nat} {w : Int64} : md_add I r c w n 1 = upd (I 1) r (nI (c + n)) := zk_u_s
theorem md_add_2 {I : zk_I} {r c n : Nat} {w : Int64} : md_add I r c w n 2 = md_ab (I 2) (200 * r + c) w n := by rw [md_add, zk_u_n (by decide), zk_u_s]
theorem md_add_0 {I : zk_I} {r c : Nat} {w : Int64} (h : I 1 r = nI c) : md_add I r c w 0 = I := by
  unfold md_add
  rw [md_ab_0, zk_u_self, Nat.add_zero, ← h, upd_self, zk_u_self]
theorem md_add_S {I : zk_I} {r c n : Nat} {w : Int64} : zk_u (zk_u (md_add I r c w n) 2 (upd (md_ab (I 2) (200 * r + c) w n) (200 * r + (c + n)) (md_by w n))) 1 (upd (upd (I 1) r (nI (c + n))) r (nI (c + n + 1))) = md_add I r c w (n + 1) := by
  rw [← Nat.add_assoc (200 * r) c n, md_ab_S, upd_upd]
  unfold md_add
  rw [zk_u_c _ (show 1 ≠ 2 by decide), zk_u_u, zk_u_u]
  rfl

set_option maxHeartbeats 1000000 in
set_option maxRecDepth 100000 in
theorem c_X5_add_ok (X : zk_X) (I : zk_I) (J : zk_J) {r n c : Nat} (w : Int64) (hr : r < 8) (hn1 : 1 ≤ n) (hn8 : n ≤ 8) (hc : I 1 r = nI c) (hc2 : c ≤ 200) (hcn : c + n ≤ 200) : zk_M 1 X yX5_add cX5_add 6 ((some .int)) (2, 42) [.ref (zk_ad X 0), .int (nI r), .int (nI n), .long w] I J (some (.int (nI (c + n)))) (md_add (md_0 I) r c w n) J := by
  refine zk_M.intro (by decide) (lv := [some (.ref (zk_ad X 0)), some (.int (nI r)), some (.int (nI n)), some (.long w), none, none]) rfl rfl (fun E hC hR => ?_)
  have hc0 : md_0 I 1 r = nI c := by rw [md_0_o (by decide)]; exact hc
  refine zk_aload_n (pc' := 1) hC rfl ⟨dX5_add_0, rfl⟩ ?_
  refine zk_iconst (pc' := 2) (x := nI 0) hC ⟨dX5_add_1, rfl⟩ zc_iconst_0 ?_
  refine zk_puti (pc' := 5) hC fl_X5_50 fp_X5_0 (by first | decide | assumption | omega) (by first | rfl | assumption) rfl rfl rfl ⟨dX5_add_2, rfl⟩ ?_
  change zk_A 1 X E 5 _ _ (md_0 I) J
  refine zk_iload_n (pc' := 6) hC rfl ⟨dX5_add_5, rfl⟩ ?_
  refine zk_callS1 (pc' := 9) hC ml_X5_58 ms_X5_isRegister (c_X5_isRegister X _ J (nI r)) (by decide) rfl rfl (Nat.le_of_ble_eq_true rfl) ⟨dX5_add_6, rfl⟩ ?_
  rw [if_pos (is_r_nI hr)]
  refine zk_if_eqN (pc' := 12) hC ⟨dX5_add_9, rfl⟩ 22 (by decide) (by omega) (fun q => ?_) (fun q => ?_)
  · omega
  · refine zk_iload_n (pc' := 13) hC rfl ⟨dX5_add_12, rfl⟩ ?_
    refine zk_iconst (pc' := 14) (x := nI 1) hC ⟨dX5_add_13, rfl⟩ zc_iconst_1 ?_
    refine zk_bipush (pc' := 16) (x := nI 8) hC ⟨dX5_add_14, rfl⟩ zc_bipush_8 ?_
    refine zk_callS1 (pc' := 19) hC ml_X5_54 ms_X5_in (c_X5_in X _ J (nI n) (nI 1) (nI 8)) (by decide) rfl rfl (Nat.le_of_ble_eq_true rfl) ⟨dX5_add_16, rfl⟩ ?_
    rw [if_pos ((md_in_nI (by omega) (by omega) (by omega)).mpr ⟨hn1, hn8⟩)]
    refine zk_if_neN (pc' := 22) hC ⟨dX5_add_19, rfl⟩ 25 (by decide) (by omega) (fun q2 => ?_) (fun q2 => ?_)
    · refine zk_aload_n (pc' := 26) hC rfl ⟨dX5_add_25, rfl⟩ ?_
      refine zk_getr (pc' := 29) hC fl_X5_7 (by first | decide | assumption | omega) (by first | rfl | assumption) rfl ⟨dX5_add_26, rfl⟩ ?_
      refine zk_iload_n (pc' := 30) hC rfl ⟨dX5_add_29, rfl⟩ ?_
      first | refine zk_ialdN (pc' := 31) hC (by first | decide | assumption | omega) (by first | rfl | assumption) (by omega) (by first | decide | omega) ⟨dX5_add_30, rfl⟩ ?_ | refine zk_t0N (pc' := 31) hC (by omega) ⟨dX5_add_30, rfl⟩ ?_ | refine zk_t2N (pc' := 31) hC (by omega) ⟨dX5_add_30, rfl⟩ ?_
      rw [hc0]
      refine zk_iload_n (pc' := 32) hC rfl ⟨dX5_add_31, rfl⟩ ?_
      first | refine zk_iaddN (pc' := 33) hC ⟨dX5_add_32, rfl⟩ ?_ | refine zk_iadd (pc' := 33) hC ⟨dX5_add_32, rfl⟩ ?_
      refine zk_sipush (pc' := 36) (x := nI 200) hC ⟨dX5_add_33, rfl⟩ zc_sipush_200 ?_
      refine zk_icmp_leN (pc' := 39) hC ⟨dX5_add_36, rfl⟩ 42 (by decide) (by omega) (by omega) (fun q3 => ?_) (fun q3 => ?_)
      · refine zk_iconst (pc' := 43) (x := nI 0) hC ⟨dX5_add_42, rfl⟩ zc_iconst_0 ?_
        refine zk_is5 (pc' := 45) hC ⟨dX5_add_43, rfl⟩ rfl ?_
        refine zk_eqI (I' := md_add (md_0 I) r c w 0) (md_add_0 hc0).symm ?_
        refine zk_up (P := fun k => zk_A 1 X E 45 [some (.ref (zk_ad X 0)), some (.int (nI r)), some (.int (nI n)), some (.long w), none, some (.int (nI k))] [] (md_add (md_0 I) r c w k) J) n ?_ (fun k hk ih => ?_)
        · skip
          have hv : md_add (md_0 I) r c w n 1 r = nI (c + n) := by rw [md_add_1, pk_us]
          refine zk_iload (pc' := 47) hC rfl ⟨dX5_add_45, rfl⟩ ?_
          refine zk_iload_n (pc' := 48) hC rfl ⟨dX5_add_47, rfl⟩ ?_
          refine zk_icmp_geN (pc' := 51) hC ⟨dX5_add_48, rfl⟩ 96 (by decide) (by omega) (by omega) (fun q4 => ?_) (fun q4 => ?_)
          · refine zk_aload_n (pc' := 97) hC rfl ⟨dX5_add_96, rfl⟩ ?_
            refine zk_getr (pc' := 100) hC fl_X5_7 (by first | decide | assumption | omega) (by first | rfl | assumption) rfl ⟨dX5_add_97, rfl⟩ ?_
            refine zk_iload_n (pc' := 101) hC rfl ⟨dX5_add_100, rfl⟩ ?_
            first | refine zk_ialdN (pc' := 102) hC (by first | decide | assumption | omega) (by first | rfl | assumption) (by omega) (by first | decide | omega) ⟨dX5_add_101, rfl⟩ ?_ | refine zk_t0N (pc' := 102) hC (by omega) ⟨dX5_add_101, rfl⟩ ?_ | refine zk_t2N (pc' := 102) hC (by omega) ⟨dX5_add_101, rfl⟩ ?_
            rw [hv]
            exact zk_iret (pc' := 103) hC hR rfl rfl rfl ⟨dX5_add_102, rfl⟩
          · omega
        · skip
          have hv : md_add (md_0 I) r c w k 1 r = nI (c + k) := by rw [md_add_1, pk_us]
          refine zk_iload (pc' := 47) hC rfl ⟨dX5_add_45, rfl⟩ ?_
          refine zk_iload_n (pc' := 48) hC rfl ⟨dX5_add_47, rfl⟩ ?_
          refine zk_icmp_geN (pc' := 51) hC ⟨dX5_add_48, rfl⟩ 96 (by decide) (by omega) (by omega) (fun q4 => ?_) (fun q4 => ?_)
          · omega
          · refine zk_aload_n (pc' := 52) hC rfl ⟨dX5_add_51, rfl⟩ ?_
            refine zk_getr (pc' := 55) hC fl_X5_13 (by first | decide | assumption | omega) (by first | rfl | assumption) rfl ⟨dX5_add_52, rfl⟩ ?_
            refine zk_sipush (pc' := 58) (x := nI 200) hC ⟨dX5_add_55, rfl⟩ zc_sipush_200 ?_
            refine zk_iload_n (pc' := 59) hC rfl ⟨dX5_add_58, rfl⟩ ?_
            first | refine zk_imulN (pc' := 60) hC ⟨dX5_add_59, rfl⟩ ?_ | refine zk_imul (pc' := 60) hC ⟨dX5_add_59, rfl⟩ ?_
            refine zk_aload_n (pc' := 61) hC rfl ⟨dX5_add_60, rfl⟩ ?_
            refine zk_getr (pc' := 64) hC fl_X5_7 (by first | decide | assumption | omega) (by first | rfl | assumption) rfl ⟨dX5_add_61, rfl⟩ ?_
            refine zk_iload_n (pc' := 65) hC rfl ⟨dX5_add_64, rfl⟩ ?_
            first | refine zk_ialdN (pc' := 66) hC (by first | decide | assumption | omega) (by first | rfl | assumption) (by omega) (by first | decide | omega) ⟨dX5_add_65, rfl⟩ ?_ | refine zk_t0N (pc' := 66) hC (by omega) ⟨dX5_add_65, rfl⟩ ?_ | refine zk_t2N (pc' := 66) hC (by omega) ⟨dX5_add_65, rfl⟩ ?_
            rw [hv]
            first | refine zk_iaddN (pc' := 67) hC ⟨dX5_add_66, rfl⟩ ?_ | refine zk_iadd (pc' := 67) hC ⟨dX5_add_66, rfl⟩ ?_
            refine zk_lload_n (pc' := 68) hC rfl ⟨dX5_add_67, rfl⟩ ?_
            refine zk_bipush (pc' := 70) (x := nI 8) hC ⟨dX5_add_68, rfl⟩ zc_bipush_8 ?_
            refine zk_iload (pc' := 72) hC rfl ⟨dX5_add_70, rfl⟩ ?_
            first | refine zk_imulN (pc' := 73) hC ⟨dX5_add_72, rfl⟩ ?_ | refine zk_imul (pc' := 73) hC ⟨dX5_add_72, rfl⟩ ?_
            refine zk_lshr (pc' := 74) hC ⟨dX5_add_73, rfl⟩ ?_
            refine zk_ldc2 (pc' := 77) (x := 255) hC ⟨dX5_add_74, rfl⟩ kl_X5_62 ?_
            refine zk_land (pc' := 78) hC ⟨dX5_add_77, rfl⟩ ?_
            refine zk_l2i (pc' := 79) hC ⟨dX5_add_78, rfl⟩ ?_
            first | refine zk_iastN (pc' := 80) hC (by first | decide | assumption | omega) (by first | rfl | assumption) (by omega) (by first | decide | omega) ⟨dX5_add_79, rfl⟩ ?_
            rw [md_add_2]
            refine zk_aload_n (pc' := 81) hC rfl ⟨dX5_add_80, rfl⟩ ?_
            refine zk_getr (pc' := 84) hC fl_X5_7 (by first | decide | assumption | omega) (by first | rfl | assumption) rfl ⟨dX5_add_81, rfl⟩ ?_
            refine zk_iload_n (pc' := 85) hC rfl ⟨dX5_add_84, rfl⟩ ?_
            refine zk_dup2 (pc' := 86) hC ⟨dX5_add_85, rfl⟩ rfl rfl ?_
            first | refine zk_ialdN (pc' := 87) hC (by first | decide | assumption | omega) (by first | rfl | assumption) (by omega) (by first | decide | omega) ⟨dX5_add_86, rfl⟩ ?_ | refine zk_t0N (pc' := 87) hC (by omega) ⟨dX5_add_86, rfl⟩ ?_ | refine zk_t2N (pc' := 87) hC (by omega) ⟨dX5_add_86, rfl⟩ ?_
            rw [zk_u_n (show 1 ≠ 2 by decide), hv]
            refine zk_iconst (pc' := 88) (x := nI 1) hC ⟨dX5_add_87, rfl⟩ zc_iconst_1 ?_
            first | refine zk_iaddN (pc' := 89) hC ⟨dX5_add_88, rfl⟩ ?_ | refine zk_iadd (pc' := 89) hC ⟨dX5_add_88, rfl⟩ ?_
            first | refine zk_iastN (pc' := 90) hC (by first | decide | assumption | omega) (by first | rfl | assumption) (by omega) (by first | decide | omega) ⟨dX5_add_89, rfl⟩ ?_
            rw [zk_u_n (show 1 ≠ 2 by decide), md_add_1]
            refine zk_eqI (I' := md_add (md_0 I) r c w (k + 1)) md_add_S ?_
            first | refine zk_in5 (pc' := 93) hC ⟨dX5_add_90, rfl⟩ ?_ | refine zk_iincG (pc' := 93) hC ⟨dX5_add_90, rfl⟩ rfl ?_
            refine zk_goto (pc' := 96) hC ⟨dX5_add_93, rfl⟩ 45 (by decide) ?_
            exact ih
      · omega
    · omega

set_option maxHeartbeats 1000000 in
set_option maxRecDepth 100000 in
theorem c_X5_clear_bad (X : zk_X) (I : zk_I) (J : zk_J) (r : Int32) (hbad : ¬ is_r r) : zk_M 1 X yX5_clear cX5_clear 3 ((some .int)) (2, 42) [.ref (zk_ad X 0), .int r] I J (some (.int (-2))) (md_0 I) J := by
  refine zk_M.intro (by decide) (lv := [some (.ref (zk_ad X 0)), some (.int r), none]) rfl rfl (fun E hC hR => ?_)
  refine zk_aload_n (pc' := 1) hC rfl ⟨dX5_clear_0, rfl⟩ ?_
  refine zk_iconst (pc' := 2) (x := nI 0) hC ⟨dX5_clear_1, rfl⟩ zc_iconst_0 ?_
  refine zk_puti (pc' := 5) hC fl_X5_50 fp_X5_0 (by first | decide | assumption | omega) (by first | rfl | assumption) rfl rfl rfl ⟨dX5_clear_2, rfl⟩ ?_
  change zk_A 1 X E 5 _ _ (md_0 I) J
  refine zk_iload_n (pc' := 6) hC rfl ⟨dX5_clear_5, rfl⟩ ?_
  refine zk_callS1 (pc' := 9) hC ml_X5_58 ms_X5_isRegister (c_X5_isRegister X _ J r) (by decide) rfl rfl (Nat.le_of_ble_eq_true rfl) ⟨dX5_clear_6, rfl⟩ ?_
  rw [if_neg hbad]
  refine zk_if_neN (pc' := 12) hC ⟨dX5_clear_9, rfl⟩ 15 (by decide) (by omega) (fun q => ?_) (fun q => ?_)
  · omega
  · refine zk_bipush (pc' := 14) (x := (-2 : Int32)) hC ⟨dX5_clear_12, rfl⟩ zc_bipush_m2 ?_
    exact zk_iret (pc' := 15) hC hR rfl rfl rfl ⟨dX5_clear_14, rfl⟩

set_option maxHeartbeats 1000000 in
set_option maxRecDepth 100000 in
theorem c_X5_clear_ok (X : zk_X) (I : zk_I) (J : zk_J) {r c : Nat} (hr : r < 8) (hc : I 1 r = nI c) : zk_M 1 X yX5_clear cX5_clear 3 ((some .int)) (2, 42) [.ref (zk_ad X 0), .int (nI r)] I J (some (.int (nI c))) (zk_u (md_0 I) 1 (upd (md_0 I 1) r (nI 0))) J := by
  refine zk_M.intro (by decide) (lv := [some (.ref (zk_ad X 0)), some (.int (nI r)), none]) rfl rfl (fun E hC hR => ?_)
  have hc0 : md_0 I 1 r = nI c := by rw [md_0_o (by decide)]; exact hc
  refine zk_aload_n (pc' := 1) hC rfl ⟨dX5_clear_0, rfl⟩ ?_
  refine zk_iconst (pc' := 2) (x := nI 0) hC ⟨dX5_clear_1, rfl⟩ zc_iconst_0 ?_
  refine zk_puti (pc' := 5) hC fl_X5_50 fp_X5_0 (by first | decide | assumption | omega) (by first | rfl | assumption) rfl rfl rfl ⟨dX5_clear_2, rfl⟩ ?_
  change zk_A 1 X E 5 _ _ (md_0 I) J
  refine zk_iload_n (pc' := 6) hC rfl ⟨dX5_clear_5, rfl⟩ ?_
  refine zk_callS1 (pc' := 9) hC ml_X5_58 ms_X5_isRegister (c_X5_isRegister X _ J (nI r)) (by decide) rfl rfl (Nat.le_of_ble_eq_true rfl) ⟨dX5_clear_6, rfl⟩ ?_
  rw [if_pos (is_r_nI hr)]
  refine zk_if_neN (pc' := 12) hC ⟨dX5_clear_9, rfl⟩ 15 (by decide) (by omega) (fun q => ?_) (fun q => ?_)
  · refine zk_aload_n (pc' := 16) hC rfl ⟨dX5_clear_15, rfl⟩ ?_
    refine zk_getr (pc' := 19) hC fl_X5_7 (by first | decide | assumption | omega) (by first | rfl | assumption) rfl ⟨dX5_clear_16, rfl⟩ ?_
    refine zk_iload_n (pc' := 20) hC rfl ⟨dX5_clear_19, rfl⟩ ?_
    first | refine zk_ialdU (pc' := 21) hC (by first | decide | assumption | omega) (by first | rfl | assumption) (by omega) (by first | decide | omega) ⟨dX5_clear_20, rfl⟩ ?_ | refine zk_ialdN (pc' := 21) hC (by first | decide | assumption | omega) (by first | rfl | assumption) (by omega) (by first | decide | omega) ⟨dX5_clear_20, rfl⟩ ?_ | refine zk_t0N (pc' := 21) hC (by omega) ⟨dX5_clear_20, rfl⟩ ?_ | refine zk_t2N (pc' := 21) hC (by omega) ⟨dX5_clear_20, rfl⟩ ?_
    rw [hc0]
    refine zk_is2 (pc' := 22) hC ⟨dX5_clear_21, rfl⟩ rfl ?_
    refine zk_aload_n (pc' := 23) hC rfl ⟨dX5_clear_22, rfl⟩ ?_
    refine zk_getr (pc' := 26) hC fl_X5_7 (by first | decide | assumption | omega) (by first | rfl | assumption) rfl ⟨dX5_clear_23, rfl⟩ ?_
    refine zk_iload_n (pc' := 27) hC rfl ⟨dX5_clear_26, rfl⟩ ?_
    refine zk_iconst (pc' := 28) (x := nI 0) hC ⟨dX5_clear_27, rfl⟩ zc_iconst_0 ?_
    first | refine zk_iastU (pc' := 29) hC (by first | decide | assumption | omega) (by first | rfl | assumption) (by omega) (by first | decide | omega) ⟨dX5_clear_28, rfl⟩ ?_ | refine zk_iastN (pc' := 29) hC (by first | decide | assumption | omega) (by first | rfl | assumption) (by omega) (by first | decide | omega) ⟨dX5_clear_28, rfl⟩ ?_
    refine zk_iload_n (pc' := 30) hC rfl ⟨dX5_clear_29, rfl⟩ ?_
    exact zk_iret (pc' := 31) hC hR rfl rfl rfl ⟨dX5_clear_30, rfl⟩
  · omega

set_option maxHeartbeats 1000000 in
set_option maxRecDepth 100000 in
theorem c_X5_size_bad (X : zk_X) (I : zk_I) (J : zk_J) (r : Int32) (hbad : ¬ is_r r) : zk_M 1 X yX5_size cX5_size 2 ((some .int)) (2, 42) [.ref (zk_ad X 0), .int r] I J (some (.int (-2))) (md_0 I) J := by
  refine zk_M.intro (by decide) (lv := [some (.ref (zk_ad X 0)), some (.int r)]) rfl rfl (fun E hC hR => ?_)
  refine zk_aload_n (pc' := 1) hC rfl ⟨dX5_size_0, rfl⟩ ?_
  refine zk_iconst (pc' := 2) (x := nI 0) hC ⟨dX5_size_1, rfl⟩ zc_iconst_0 ?_
  refine zk_puti (pc' := 5) hC fl_X5_50 fp_X5_0 (by first | decide | assumption | omega) (by first | rfl | assumption) rfl rfl rfl ⟨dX5_size_2, rfl⟩ ?_
  change zk_A 1 X E 5 _ _ (md_0 I) J
  refine zk_iload_n (pc' := 6) hC rfl ⟨dX5_size_5, rfl⟩ ?_
  refine zk_callS1 (pc' := 9) hC ml_X5_58 ms_X5_isRegister (c_X5_isRegister X _ J r) (by decide) rfl rfl (Nat.le_of_ble_eq_true rfl) ⟨dX5_size_6, rfl⟩ ?_
  rw [if_neg hbad]
  refine zk_if_eqN (pc' := 12) hC ⟨dX5_size_9, rfl⟩ 21 (by decide) (by omega) (fun q => ?_) (fun q => ?_)
  · refine zk_bipush (pc' := 23) (x := (-2 : Int32)) hC ⟨dX5_size_21, rfl⟩ zc_bipush_m2 ?_
    exact zk_iret (pc' := 24) hC hR rfl rfl rfl ⟨dX5_size_23, rfl⟩
  · omega

set_option maxHeartbeats 1000000 in
set_option maxRecDepth 100000 in
theorem c_X5_size_ok (X : zk_X) (I : zk_I) (J : zk_J) {r c : Nat} (hr : r < 8) (hc : I 1 r = nI c) : zk_M 1 X yX5_size cX5_size 2 ((some .int)) (2, 42) [.ref (zk_ad X 0), .int (nI r)] I J (some (.int (nI c))) (md_0 I) J := by
  refine zk_M.intro (by decide) (lv := [some (.ref (zk_ad X 0)), some (.int (nI r))]) rfl rfl (fun E hC hR => ?_)
  have hc0 : md_0 I 1 r = nI c := by rw [md_0_o (by decide)]; exact hc
  refine zk_aload_n (pc' := 1) hC rfl ⟨dX5_size_0, rfl⟩ ?_
  refine zk_iconst (pc' := 2) (x := nI 0) hC ⟨dX5_size_1, rfl⟩ zc_iconst_0 ?_
  refine zk_puti (pc' := 5) hC fl_X5_50 fp_X5_0 (by first | decide | assumption | omega) (by first | rfl | assumption) rfl rfl rfl ⟨dX5_size_2, rfl⟩ ?_
  change zk_A 1 X E 5 _ _ (md_0 I) J
  refine zk_iload_n (pc' := 6) hC rfl ⟨dX5_size_5, rfl⟩ ?_
  refine zk_callS1 (pc' := 9) hC ml_X5_58 ms_X5_isRegister (c_X5_isRegister X _ J (nI r)) (by decide) rfl rfl (Nat.le_of_ble_eq_true rfl) ⟨dX5_size_6, rfl⟩ ?_
  rw [if_pos (is_r_nI hr)]
  refine zk_if_eqN (pc' := 12) hC ⟨dX5_size_9, rfl⟩ 21 (by decide) (by omega) (fun q => ?_) (fun q => ?_)
  · omega
  · refine zk_aload_n (pc' := 13) hC rfl ⟨dX5_size_12, rfl⟩ ?_
    refine zk_getr (pc' := 16) hC fl_X5_7 (by first | decide | assumption | omega) (by first | rfl | assumption) rfl ⟨dX5_size_13, rfl⟩ ?_
    refine zk_iload_n (pc' := 17) hC rfl ⟨dX5_size_16, rfl⟩ ?_
    first | refine zk_ialdU (pc' := 18) hC (by first | decide | assumption | omega) (by first | rfl | assumption) (by omega) (by first | decide | omega) ⟨dX5_size_17, rfl⟩ ?_ | refine zk_ialdN (pc' := 18) hC (by first | decide | assumption | omega) (by first | rfl | assumption) (by omega) (by first | decide | omega) ⟨dX5_size_17, rfl⟩ ?_ | refine zk_t0N (pc' := 18) hC (by omega) ⟨dX5_size_17, rfl⟩ ?_ | refine zk_t2N (pc' := 18) hC (by omega) ⟨dX5_size_17, rfl⟩ ?_
    rw [hc0]
    refine zk_goto (pc' := 21) hC ⟨dX5_size_18, rfl⟩ 23 (by decide) ?_
    exact zk_iret (pc' := 24) hC hR rfl rfl rfl ⟨dX5_size_23, rfl⟩

set_option maxHeartbeats 1000000 in
set_option maxRecDepth 100000 in
theorem c_X5_at_bad (X : zk_X) (I : zk_I) (J : zk_J) (r i : Int32) (hbad : ¬ is_r r) : zk_M 1 X yX5_at cX5_at 3 ((some .int)) (2, 42) [.ref (zk_ad X 0), .int r, .int i] I J (some (.int (-2))) (md_0 I) J := by
  refine zk_M.intro (by decide) (lv := [some (.ref (zk_ad X 0)), some (.int r), some (.int i)]) rfl rfl (fun E hC hR => ?_)
  refine zk_aload_n (pc' := 1) hC rfl ⟨dX5_at_0, rfl⟩ ?_
  refine zk_iconst (pc' := 2) (x := nI 0) hC ⟨dX5_at_1, rfl⟩ zc_iconst_0 ?_
  refine zk_puti (pc' := 5) hC fl_X5_50 fp_X5_0 (by first | decide | assumption | omega) (by first | rfl | assumption) rfl rfl rfl ⟨dX5_at_2, rfl⟩ ?_
  change zk_A 1 X E 5 _ _ (md_0 I) J
  refine zk_iload_n (pc' := 6) hC rfl ⟨dX5_at_5, rfl⟩ ?_
  refine zk_callS1 (pc' := 9) hC ml_X5_58 ms_X5_isRegister (c_X5_isRegister X _ J r) (by decide) rfl rfl (Nat.le_of_ble_eq_true rfl) ⟨dX5_at_6, rfl⟩ ?_
  rw [if_neg hbad]
  refine zk_if_neN (pc' := 12) hC ⟨dX5_at_9, rfl⟩ 17 (by decide) (by omega) (fun q => ?_) (fun q => ?_)
  · omega
  · refine zk_bipush (pc' := 14) (x := (-2 : Int32)) hC ⟨dX5_at_12, rfl⟩ zc_bipush_m2 ?_
    refine zk_goto (pc' := 17) hC ⟨dX5_at_14, rfl⟩ 49 (by decide) ?_
    exact zk_iret (pc' := 50) hC hR rfl rfl rfl ⟨dX5_at_49, rfl⟩

def md_at (c r : Nat) (f : Nat → Int32) (x : Int32) : Int32 := if x < 0 then -1 else if nI c ≤ x then -1 else f (200 * r + x.toNatClampNeg)
theorem md_inc {x : Int32} {c : Nat} (hc : c ≤ 200) : md_in x (nI 0) (nI c - nI 1) ↔ ¬ x < 0 ∧ ¬ nI c ≤ x := by
  unfold md_in
  rw [nI_0]
  refine and_congr_right (fun h => not_congr ?_)
  rw [Int32.lt_iff_toInt_lt, Int32.le_iff_toInt_le, nI_toInt (by omega), pk_sub_toInt (by omega) (by decide)]
  omega

set_option maxHeartbeats 1000000 in
set_option maxRecDepth 100000 in
theorem c_X5_at_ok (X : zk_X) (I : zk_I) (J : zk_J) {r c : Nat} (i : Int32) (hr : r < 8) (hc : I 1 r = nI c) (hc2 : c ≤ 200) : zk_M 1 X yX5_at cX5_at 3 ((some .int)) (2, 42) [.ref (zk_ad X 0), .int (nI r), .int i] I J (some (.int (md_at c r (I 2) i))) (md_0 I) J := by
  refine zk_M.intro (by decide) (lv := [some (.ref (zk_ad X 0)), some (.int (nI r)), some (.int i)]) rfl rfl (fun E hC hR => ?_)
  have hc0 : md_0 I 1 r = nI c := by rw [md_0_o (by decide)]; exact hc
  refine zk_aload_n (pc' := 1) hC rfl ⟨dX5_at_0, rfl⟩ ?_
  refine zk_iconst (pc' := 2) (x := nI 0) hC ⟨dX5_at_1, rfl⟩ zc_iconst_0 ?_
  refine zk_puti (pc' := 5) hC fl_X5_50 fp_X5_0 (by first | decide | assumption | omega) (by first | rfl | assumption) rfl rfl rfl ⟨dX5_at_2, rfl⟩ ?_
  change zk_A 1 X E 5 _ _ (md_0 I) J
  refine zk_iload_n (pc' := 6) hC rfl ⟨dX5_at_5, rfl⟩ ?_
  refine zk_callS1 (pc' := 9) hC ml_X5_58 ms_X5_isRegister (c_X5_isRegister X _ J (nI r)) (by decide) rfl rfl (Nat.le_of_ble_eq_true rfl) ⟨dX5_at_6, rfl⟩ ?_
  rw [if_pos (is_r_nI hr)]
  refine zk_if_neN (pc' := 12) hC ⟨dX5_at_9, rfl⟩ 17 (by decide) (by omega) (fun q => ?_) (fun q => ?_)
  · refine zk_iload_n (pc' := 18) hC rfl ⟨dX5_at_17, rfl⟩ ?_
    refine zk_iconst (pc' := 19) (x := nI 0) hC ⟨dX5_at_18, rfl⟩ zc_iconst_0 ?_
    refine zk_aload_n (pc' := 20) hC rfl ⟨dX5_at_19, rfl⟩ ?_
    refine zk_getr (pc' := 23) hC fl_X5_7 (by first | decide | assumption | omega) (by first | rfl | assumption) rfl ⟨dX5_at_20, rfl⟩ ?_
    refine zk_iload_n (pc' := 24) hC rfl ⟨dX5_at_23, rfl⟩ ?_
    first | refine zk_ialdU (pc' := 25) hC (by first | decide | assumption | omega) (by first | rfl | assumption) (by omega) (by first | decide | omega) ⟨dX5_at_24, rfl⟩ ?_ | refine zk_ialdN (pc' := 25) hC (by first | decide | assumption | omega) (by first | rfl | assumption) (by omega) (by first | decide | omega) ⟨dX5_at_24, rfl⟩ ?_ | refine zk_t0N (pc' := 25) hC (by omega) ⟨dX5_at_24, rfl⟩ ?_ | refine zk_t2N (pc' := 25) hC (by omega) ⟨dX5_at_24, rfl⟩ ?_
    rw [hc0]
    refine zk_iconst (pc' := 26) (x := nI 1) hC ⟨dX5_at_25, rfl⟩ zc_iconst_1 ?_
    refine zk_isub (pc' := 27) hC ⟨dX5_at_26, rfl⟩ ?_
    refine zk_callS1 (pc' := 30) hC ml_X5_54 ms_X5_in (c_X5_in X _ J i (nI 0) (nI c - nI 1)) (by decide) rfl rfl (Nat.le_of_ble_eq_true rfl) ⟨dX5_at_27, rfl⟩ ?_
    rw [md_if (md_inc hc2)]
    by_cases h : ¬ i < 0 ∧ ¬ nI c ≤ i
    · skip
      rw [if_pos h]
      refine zk_if_eqN (pc' := 33) hC ⟨dX5_at_30, rfl⟩ 48 (by decide) (by omega) (fun q2 => ?_) (fun q2 => ?_)
      · omega
      · rw [md_at, if_neg h.1, if_neg h.2] at hR
        obtain ⟨j, hj, rfl⟩ := nI_of h.1
        have hjc : j < c := Nat.not_le.mp fun z => h.2 (nI_le z hj)
        rw [nI_clamp hj] at hR
        refine zk_aload_n (pc' := 34) hC rfl ⟨dX5_at_33, rfl⟩ ?_
        refine zk_getr (pc' := 37) hC fl_X5_13 (by first | decide | assumption | omega) (by first | rfl | assumption) rfl ⟨dX5_at_34, rfl⟩ ?_
        refine zk_sipush (pc' := 40) (x := nI 200) hC ⟨dX5_at_37, rfl⟩ zc_sipush_200 ?_
        refine zk_iload_n (pc' := 41) hC rfl ⟨dX5_at_40, rfl⟩ ?_
        first | refine zk_imulN (pc' := 42) hC ⟨dX5_at_41, rfl⟩ ?_ | refine zk_imul (pc' := 42) hC ⟨dX5_at_41, rfl⟩ ?_
        refine zk_iload_n (pc' := 43) hC rfl ⟨dX5_at_42, rfl⟩ ?_
        first | refine zk_iaddN (pc' := 44) hC ⟨dX5_at_43, rfl⟩ ?_ | refine zk_iadd (pc' := 44) hC ⟨dX5_at_43, rfl⟩ ?_
        first | refine zk_ialdU (pc' := 45) hC (by first | decide | assumption | omega) (by first | rfl | assumption) (by omega) (by first | decide | omega) ⟨dX5_at_44, rfl⟩ ?_ | refine zk_ialdN (pc' := 45) hC (by first | decide | assumption | omega) (by first | rfl | assumption) (by omega) (by first | decide | omega) ⟨dX5_at_44, rfl⟩ ?_ | refine zk_t0N (pc' := 45) hC (by omega) ⟨dX5_at_44, rfl⟩ ?_ | refine zk_t2N (pc' := 45) hC (by omega) ⟨dX5_at_44, rfl⟩ ?_
        rw [md_0_o (show 2 ≠ 0 by decide)]
        refine zk_goto (pc' := 48) hC ⟨dX5_at_45, rfl⟩ 49 (by decide) ?_
        exact zk_iret (pc' := 50) hC hR rfl rfl rfl ⟨dX5_at_49, rfl⟩
    · skip
      rw [if_neg h]
      refine zk_if_eqN (pc' := 33) hC ⟨dX5_at_30, rfl⟩ 48 (by decide) (by omega) (fun q2 => ?_) (fun q2 => ?_)
      · have hm : md_at c r (I 2) i = -1 := by unfold md_at; split; rfl; split; rfl; exact absurd ⟨by assumption, by assumption⟩ h
        rw [hm] at hR
        refine zk_iconst (pc' := 49) (x := (-1 : Int32)) hC ⟨dX5_at_48, rfl⟩ zc_iconst_m1 ?_
        exact zk_iret (pc' := 50) hC hR rfl rfl rfl ⟨dX5_at_49, rfl⟩
      · omega
  · omega

