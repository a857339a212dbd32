/-! THE LAW: both worlds side by side -/
theorem lq_fv {X X' : zk_X} {I : zk_I} {k : Nat} (h : ∀ p, zk_ad X p = zk_ad X' p) : ∀ (fs : List (Option Nat)) (j : Nat), zk_fv X I k j fs = zk_fv X' I k j fs
  | [], _ => rfl
  | some p :: r, j => by rw [zk_fv, zk_fv, lq_fv h r, h]
  | none :: r, j => by rw [zk_fv, zk_fv, lq_fv h r]
theorem lq_e {X X' : zk_X} {I : zk_I} {J : zk_J} {k : Nat} (h : ∀ p, zk_ad X p = zk_ad X' p) (h2 : X.2.2.2.1 = X'.2.2.2.1) (x : zk_S) : zk_e X I J k x = zk_e X' I J k x := by
  rcases x with ⟨t, n⟩ | ⟨ci, fs⟩ | ⟨t, n, p0⟩
  · match t with
    | 0 => simp only [zk_e, h2]
    | 1 => simp only [zk_e, h2]
    | t + 2 => simp only [zk_e, h2]
  · simp only [zk_e, lq_fv h]
  · simp only [zk_e, h, h2]
def lq_c (v : Nat) (Y : zk_X) (ad : Nat → Nat) (I : zk_I) (J : zk_J) : va_W := (List.range (zk_N v)).map (fun k => (ad k, zk_e (zn_X Y ad []) I J k (zk_sh v k)))
/-- the class's world, the reference's cells beside it; and the other way round -/
def lq_0 (Y : zk_X) (ad0 ad1 : Nat → Nat) (Ir : zk_I) (Jr : zk_J) : zk_X := zn_X Y ad0 (lq_c 1 Y ad1 Ir Jr)
def lq_1 (Y : zk_X) (ad0 ad1 : Nat → Nat) (I : zk_I) (J : zk_J) : zk_X := zn_X Y ad1 (lq_c 0 Y ad0 I J)
section LQ
variable {Y : zk_X} {E : zk_E} {ad0 ad1 : Nat → Nat} {I I' Ir Ir' : zk_I} {J J' Jr Jr' : zk_J} {pc : Nat} {lv : List (Option Value)} {st : List Value}
theorem lq_w0 : zk_w 0 (lq_0 Y ad0 ad1 Ir Jr) I J = lq_c 0 Y ad0 I J ++ lq_c 1 Y ad1 Ir Jr := by
  show (List.range (zk_N 0)).map _ ++ lq_c 1 Y ad1 Ir Jr = lq_c 0 Y ad0 I J ++ lq_c 1 Y ad1 Ir Jr
  refine congrArg (· ++ lq_c 1 Y ad1 Ir Jr) (List.map_congr_left fun k _ => ?_)
  exact congrArg (Prod.mk (ad0 k)) (lq_e (X := lq_0 Y ad0 ad1 Ir Jr) (X' := zn_X Y ad0 []) (fun _ => rfl) rfl _)
theorem lq_w1 : zk_w 1 (lq_1 Y ad0 ad1 I J) Ir Jr = lq_c 1 Y ad1 Ir Jr ++ lq_c 0 Y ad0 I J := by
  show (List.range (zk_N 1)).map _ ++ lq_c 0 Y ad0 I J = lq_c 1 Y ad1 Ir Jr ++ lq_c 0 Y ad0 I J
  refine congrArg (· ++ lq_c 0 Y ad0 I J) (List.map_congr_left fun k _ => ?_)
  exact congrArg (Prod.mk (ad1 k)) (lq_e (X := lq_1 Y ad0 ad1 I J) (X' := zn_X Y ad1 []) (fun _ => rfl) rfl _)
theorem lq_comm {D : va_G} {cl : List vw_C} {a b : va_W} {H : Heap} (h : va_P D cl (a ++ b) H) : va_P D cl (b ++ a) H :=
  zn_P_iff.mpr fun q hq => zn_P_iff.mp h q (List.mem_append.mpr (List.mem_append.mp hq).symm)
theorem lq_swap (kk : zk_A 1 (lq_1 Y ad0 ad1 I J) E pc lv st Ir Jr) : zk_A 0 (lq_0 Y ad0 ad1 Ir Jr) E pc lv st I J := by
  obtain ⟨p, e, R, s, m, args, below, meth, c, cells, slots, Q⟩ := E
  intro ls H locs hn hl hP hS
  refine kk ls H locs hn hl ?_ hS
  rw [lq_w0] at hP
  rw [lq_w1]
  exact lq_comm hP
theorem lq_back (kk : zk_A 0 (lq_0 Y ad0 ad1 Ir Jr) E pc lv st I J) : zk_A 1 (lq_1 Y ad0 ad1 I J) E pc lv st Ir Jr := by
  obtain ⟨p, e, R, s, m, args, below, meth, c, cells, slots, Q⟩ := E
  intro ls H locs hn hl hP hS
  refine kk ls H locs hn hl ?_ hS
  rw [lq_w1] at hP
  rw [lq_w0]
  exact lq_comm hP
theorem lq_Dm {A : Nat → Prop} {w w' : va_W} (h : va_D A w) (e : w.map Prod.fst = w'.map Prod.fst) : va_D A w' := by
  have h1 := zn_D_iff.mp h
  have k1 : (w.map Prod.fst).Pairwise (fun p q => p ≠ q) := List.pairwise_map.mpr h1.1
  rw [e] at k1
  refine zn_D_iff.mpr ⟨List.pairwise_map.mp k1, fun q hq => ?_⟩
  have h2 : q.1 ∈ w.map Prod.fst := by rw [e]; exact List.mem_map_of_mem hq
  obtain ⟨q', hq', he⟩ := List.mem_map.mp h2
  rw [← he]
  exact h1.2 q' hq'
theorem lq_fst (v : Nat) (ad : Nat → Nat) (I : zk_I) (J : zk_J) : (lq_c v Y ad I J).map Prod.fst = (List.range (zk_N v)).map ad := by
  unfold lq_c
  rw [List.map_map]
  rfl
theorem lq_D {A : Nat → Prop} (h : va_D A (lq_c 0 Y ad0 I J ++ lq_c 1 Y ad1 Ir Jr)) : va_D A (lq_c 0 Y ad0 I' J' ++ lq_c 1 Y ad1 Ir' Jr') :=
  lq_Dm h (by rw [List.map_append, List.map_append, lq_fst, lq_fst, lq_fst, lq_fst])
theorem lq_D1 {A : Nat → Prop} (h : va_D A (lq_c 0 Y ad0 I J ++ lq_c 1 Y ad1 Ir Jr)) : va_D A (lq_c 1 Y ad1 Ir' Jr' ++ lq_c 0 Y ad0 I' J') := by
  have h1 := zn_D_iff.mp (lq_D (I' := I') (J' := J') (Ir' := Ir') (Jr' := Jr') h)
  exact zn_D_iff.mpr ⟨(List.perm_append_comm.pairwise_iff (fun hab => Ne.symm hab)).mp h1.1, fun q hq => h1.2 q (List.mem_append.mpr (List.mem_append.mp hq).symm)⟩
/-- the numbers of cells and slots that are spent -/
def lq_used (E : zk_E) (k n : Nat) : Prop := match E with
  | (_, _, _, _, _, _, _, _, _, cells, slots, _) => cells = k ∧ slots = n
theorem lq_C0 {own : String} {cc : ByteArray} {dep mx : Nat × Nat} {k n : Nat} (h : zn_C Y E own cc dep mx) (hu : lq_used E k n) (hk : k ≤ mx.1) (hn : n ≤ mx.2) (hD : va_D (fun q => Y.2.1 ≤ q) (lq_c 0 Y ad0 I J ++ lq_c 1 Y ad1 Ir Jr)) (Ir' : zk_I) (Jr' : zk_J) : zk_C 0 (lq_0 Y ad0 ad1 Ir' Jr') E own cc dep := by
  obtain ⟨p, e, R, s, m, args, below, meth, c, cells, slots, Q⟩ := E
  obtain ⟨c1, c2, c3, c4, c5, c6, c7, c8, c9⟩ := h
  obtain ⟨rfl, rfl⟩ := hu
  exact ⟨c1, c2, c3, c4, ⟨c5.1, c5.2.1, c5.2.2.1, c5.2.2.2.1, fun I2 J2 => by rw [lq_w0]; exact lq_D hD⟩, c6, c7, Nat.le_trans hk c8, Nat.le_trans hn c9⟩
theorem lq_C1 {own : String} {cc : ByteArray} {dep mx : Nat × Nat} {k n : Nat} (h : zn_C Y E own cc dep mx) (hu : lq_used E k n) (hk : k ≤ mx.1) (hn : n ≤ mx.2) (hD : va_D (fun q => Y.2.1 ≤ q) (lq_c 0 Y ad0 I J ++ lq_c 1 Y ad1 Ir Jr)) (I' : zk_I) (J' : zk_J) : zk_C 1 (lq_1 Y ad0 ad1 I' J') E own cc dep := by
  obtain ⟨p, e, R, s, m, args, below, meth, c, cells, slots, Q⟩ := E
  obtain ⟨c1, c2, c3, c4, c5, c6, c7, c8, c9⟩ := h
  obtain ⟨rfl, rfl⟩ := hu
  exact ⟨c1, c2, c3, c4, ⟨c5.1, c5.2.1, c5.2.2.1, c5.2.2.2.1, fun I2 J2 => by rw [lq_w1]; exact lq_D1 hD⟩, c6, c7, Nat.le_trans hk c8, Nat.le_trans hn c9⟩
/-- from the making into the running -/
theorem lq_in {w : va_W} {k n kc nc : Nat} (hu : lq_used E k n) (hk : kc ≤ k) (hn : nc ≤ n) (hp : w.Perm (lq_c 0 Y ad0 I J ++ lq_c 1 Y ad1 Ir Jr)) (kk : va_D (fun q => Y.2.1 ≤ q) (lq_c 0 Y ad0 I J ++ lq_c 1 Y ad1 Ir Jr) → zk_A 0 (lq_0 Y ad0 ad1 Ir Jr) E pc lv st I J) : zn_A Y E pc lv st w kc nc := by
  obtain ⟨p, e, R, s, m, args, below, meth, c, cells, slots, Q⟩ := E
  obtain ⟨rfl, rfl⟩ := hu
  intro ls H locs hnl hl hP hS
  have hW := hP.perm hp
  refine W.widen hk hn (kk hW.2 ls H locs hnl hl ?_ hS)
  rw [lq_w0]
  exact hW.1
/-- the script -/
def lq_sc (base : Nat) (E : zk_E) (b L : Nat) (xs : Nat → Int32) : Prop := match E with
  | (_, _, _, s, _, _, _, _, _, _, _, _) => va_X b L xs s s.heap ∧ b < s.heap.size ∧ ¬ base ≤ b
end LQ
section LR
variable {v : Nat} {X : zk_X} {E : zk_E} {own : String} {cc : ByteArray} {dep : Nat × Nat} {pc pc' : Nat} {lv : List (Option Value)} {st : List Value} {I : zk_I} {J : zk_J} {b L : Nat} {xs : Nat → Int32}
theorem lq_sld {j : Nat} (h : zk_C v X E own cc dep) (hX : lq_sc X.2.1 E b L xs) (hj : j < L) (hL : L < 2 ^ 31) (d : zk_D cc pc pc' .iaload 1) (kk : zk_A v X E pc' lv (.int (xs j) :: st) I J) : zk_A v X E pc lv (.int (nI j) :: .ref b :: st) I J := by
  obtain ⟨p, e, R, s, m, args, below, meth, c, cells, slots, Q⟩ := E
  obtain ⟨d, rfl⟩ := d
  obtain ⟨x1, x2, x3⟩ := hX
  intro ls H locs hn hl hP hS
  refine va_sld h.1 h.2.1 x1 x2 x3 hS (vp_in_nI hj hL) d ?_
  rw [nI_clamp (Nat.lt_trans hj hL)]
  exact kk ls H locs hn hl hP hS
theorem lq_slen (h : zk_C v X E own cc dep) (hX : lq_sc X.2.1 E b L xs) (d : zk_D cc pc pc' .arraylength 1) (kk : zk_A v X E pc' lv (.int (nI L) :: st) I J) : zk_A v X E pc lv (.ref b :: st) I J := by
  obtain ⟨p, e, R, s, m, args, below, meth, c, cells, slots, Q⟩ := E
  obtain ⟨d, rfl⟩ := d
  obtain ⟨x1, x2, x3⟩ := hX
  intro ls H locs hn hl hP hS
  exact va_slen h.1 h.2.1 x1 x2 x3 hS d (kk ls H locs hn hl hP hS)
theorem lq_argC {k i p1 p2 p3 p4 p5 : Nat} {z : Int} (h : zk_C v X E own cc dep) (hX : lq_sc X.2.1 E b L xs) (hi : i + 10 ≤ L) (hL : L < 2 ^ 31) (hk : k < 10) (h0 : lv[0]? = some (some (.ref b))) (h3 : lv[3]? = some (some (.int (nI i)))) (hz : Int32.ofInt z = nI k) (d1 : zk_D cc pc p1 (.aload_n 0) 1) (d2 : zk_D cc p1 p2 (.iload_n 3) 1) (d3 : zk_D cc p2 p3 (.iconst z) 1) (d4 : zk_D cc p3 p4 .iadd 1) (d5 : zk_D cc p4 p5 .iaload 1) (kk : zk_A v X E p5 lv (.int (xs (i + k)) :: st) I J) : zk_A v X E pc lv st I J := by
  refine zk_aload_n (k := 0) h h0 d1 ?_
  refine zk_iload_n (k := 3) h h3 d2 ?_
  refine zk_iconst h d3 hz ?_
  refine zk_iaddN h d4 ?_
  exact lq_sld h hX (by omega) hL d5 kk
theorem lq_argB {k i p1 p2 p3 p4 p5 : Nat} {z : Int} (h : zk_C v X E own cc dep) (hX : lq_sc X.2.1 E b L xs) (hi : i + 10 ≤ L) (hL : L < 2 ^ 31) (hk : k < 10) (h0 : lv[0]? = some (some (.ref b))) (h3 : lv[3]? = some (some (.int (nI i)))) (hz : (Int8.ofInt z).toInt32 = nI k) (d1 : zk_D cc pc p1 (.aload_n 0) 1) (d2 : zk_D cc p1 p2 (.iload_n 3) 1) (d3 : zk_D cc p2 p3 (.bipush z) 2) (d4 : zk_D cc p3 p4 .iadd 1) (d5 : zk_D cc p4 p5 .iaload 1) (kk : zk_A v X E p5 lv (.int (xs (i + k)) :: st) I J) : zk_A v X E pc lv st I J := by
  refine zk_aload_n (k := 0) h h0 d1 ?_
  refine zk_iload_n (k := 3) h h3 d2 ?_
  refine zk_bipush h d3 hz ?_
  refine zk_iaddN h d4 ?_
  exact lq_sld h hX (by omega) hL d5 kk
end LR
/-- what holds all through the law -/
def lq_H (Y : zk_X) (ad0 ad1 : Nat → Nat) (E : zk_E) (b L : Nat) (xs : Nat → Int32) : Prop := (∀ Ir Jr, zk_C 0 (lq_0 Y ad0 ad1 Ir Jr) E RL cL_law (9, 300)) ∧ (∀ I J, zk_C 1 (lq_1 Y ad0 ad1 I J) E RL cL_law (9, 300)) ∧ lq_sc Y.2.1 E b L xs ∧ L < 2 ^ 31
abbrev lq_lv (b : Nat) (ad0 ad1 : Nat → Nat) (i : Nat) : List (Option Value) := [some (.ref b), some (.ref (ad0 0)), some (.ref (ad1 0)), some (.int (nI i))]
def lq_At (Y : zk_X) (ad0 ad1 : Nat → Nat) (E : zk_E) (b : Nat) (pc i : Nat) : Prop := ∀ I J Ir Jr, Sim I J Ir Jr → zk_A 0 (lq_0 Y ad0 ad1 Ir Jr) E pc (lq_lv b ad0 ad1 i) [] I J
theorem lq_13 : Cond.constantLong RL 13 4294967295 ∈ zk_ws := by decide +kernel
theorem lq_cmp (x : Int64) : lg_cmp x x = 0 := by
  unfold lg_cmp
  rw [if_neg (fun h => absurd h Int64.lt_irrefl), if_pos rfl]
section LS
variable {Y : zk_X} {E : zk_E} {ad0 ad1 : Nat → Nat} {b L : Nat} {xs : Nat → Int32} {i : Nat}
set_option maxRecDepth 100000 in
theorem lq_add (hH : lq_H Y ad0 ad1 E b L xs) (hi : i + 10 ≤ L) (kk : lq_At Y ad0 ad1 E b 657 i) : lq_At Y ad0 ad1 E b 96 i := by
  intro I J Ir Jr hS
  obtain ⟨hC0, hC1, hX, hL⟩ := hH
  refine zk_aload_n (k := 1) (hC0 Ir Jr) rfl ⟨dL_law_96, rfl⟩ ?_
  refine lq_argC (k := 1) (hC0 Ir Jr) hX hi hL (by decide) rfl rfl (by decide +kernel) ⟨dL_law_97, rfl⟩ ⟨dL_law_98, rfl⟩ ⟨dL_law_99, rfl⟩ ⟨dL_law_100, rfl⟩ ⟨dL_law_101, rfl⟩ ?_
  refine lq_argC (k := 2) (hC0 Ir Jr) hX hi hL (by decide) rfl rfl (by decide +kernel) ⟨dL_law_102, rfl⟩ ⟨dL_law_103, rfl⟩ ⟨dL_law_104, rfl⟩ ⟨dL_law_105, rfl⟩ ⟨dL_law_106, rfl⟩ ?_
  refine lq_argC (k := 3) (hC0 Ir Jr) hX hi hL (by decide) rfl rfl (by decide +kernel) ⟨dL_law_107, rfl⟩ ⟨dL_law_108, rfl⟩ ⟨dL_law_109, rfl⟩ ⟨dL_law_110, rfl⟩ ⟨dL_law_111, rfl⟩ ?_
  refine zk_i2l (hC0 Ir Jr) ⟨dL_law_112, rfl⟩ ?_
  refine zk_bipush (hC0 Ir Jr) ⟨dL_law_113, rfl⟩ (x := nI 32) (by decide +kernel) ?_
  refine zk_lshl (hC0 Ir Jr) ⟨dL_law_115, rfl⟩ ?_
  refine lq_argC (k := 4) (hC0 Ir Jr) hX hi hL (by decide) rfl rfl (by decide +kernel) ⟨dL_law_116, rfl⟩ ⟨dL_law_117, rfl⟩ ⟨dL_law_118, rfl⟩ ⟨dL_law_119, rfl⟩ ⟨dL_law_120, rfl⟩ ?_
  refine zk_i2l (hC0 Ir Jr) ⟨dL_law_121, rfl⟩ ?_
  refine zk_ldc2 (x := 4294967295) (hC0 Ir Jr) ⟨dL_law_122, rfl⟩ lq_13 ?_
  refine zk_land (hC0 Ir Jr) ⟨dL_law_125, rfl⟩ ?_
  refine zk_lor (hC0 Ir Jr) ⟨dL_law_126, rfl⟩ ?_
  obtain ⟨x, I', J', Ir', Jr', c1, c2, hk, hS'⟩ := sm_add hS (xs (i + 1)) (xs (i + 2)) (((xs (i + 3)).toInt64 <<< ((nI 32).toInt64 &&& 63)) ||| ((xs (i + 4)).toInt64 &&& 4294967295))
  obtain ⟨y, rfl⟩ := sm_kI hk
  refine zk_callV1 (k := 0) (hC0 Ir Jr) ml_L_15 mi_X4_add (c1 _) ⟨(Nat.le_of_ble_eq_true rfl), (Nat.le_of_ble_eq_true rfl)⟩ (Nat.le_of_ble_eq_true rfl) rfl rfl rfl rfl (Nat.le_of_ble_eq_true rfl) ⟨dL_law_127, rfl⟩ ?_
  refine zk_aload_n (k := 2) (hC0 Ir Jr) rfl ⟨dL_law_130, rfl⟩ ?_
  refine lq_argC (k := 1) (hC0 Ir Jr) hX hi hL (by decide) rfl rfl (by decide +kernel) ⟨dL_law_131, rfl⟩ ⟨dL_law_132, rfl⟩ ⟨dL_law_133, rfl⟩ ⟨dL_law_134, rfl⟩ ⟨dL_law_135, rfl⟩ ?_
  refine lq_argC (k := 2) (hC0 Ir Jr) hX hi hL (by decide) rfl rfl (by decide +kernel) ⟨dL_law_136, rfl⟩ ⟨dL_law_137, rfl⟩ ⟨dL_law_138, rfl⟩ ⟨dL_law_139, rfl⟩ ⟨dL_law_140, rfl⟩ ?_
  refine lq_argC (k := 3) (hC0 Ir Jr) hX hi hL (by decide) rfl rfl (by decide +kernel) ⟨dL_law_141, rfl⟩ ⟨dL_law_142, rfl⟩ ⟨dL_law_143, rfl⟩ ⟨dL_law_144, rfl⟩ ⟨dL_law_145, rfl⟩ ?_
  refine zk_i2l (hC0 Ir Jr) ⟨dL_law_146, rfl⟩ ?_
  refine zk_bipush (hC0 Ir Jr) ⟨dL_law_147, rfl⟩ (x := nI 32) (by decide +kernel) ?_
  refine zk_lshl (hC0 Ir Jr) ⟨dL_law_149, rfl⟩ ?_
  refine lq_argC (k := 4) (hC0 Ir Jr) hX hi hL (by decide) rfl rfl (by decide +kernel) ⟨dL_law_150, rfl⟩ ⟨dL_law_151, rfl⟩ ⟨dL_law_152, rfl⟩ ⟨dL_law_153, rfl⟩ ⟨dL_law_154, rfl⟩ ?_
  refine zk_i2l (hC0 Ir Jr) ⟨dL_law_155, rfl⟩ ?_
  refine zk_ldc2 (x := 4294967295) (hC0 Ir Jr) ⟨dL_law_156, rfl⟩ lq_13 ?_
  refine zk_land (hC0 Ir Jr) ⟨dL_law_159, rfl⟩ ?_
  refine zk_lor (hC0 Ir Jr) ⟨dL_law_160, rfl⟩ ?_
  refine lq_swap ?_
  refine zk_callV1 (k := 0) (hC1 I' J') ml_L_19 mi_X5_add (c2 _) ⟨(Nat.le_of_ble_eq_true rfl), (Nat.le_of_ble_eq_true rfl)⟩ (Nat.le_of_ble_eq_true rfl) rfl rfl rfl rfl (Nat.le_of_ble_eq_true rfl) ⟨dL_law_161, rfl⟩ ?_
  refine lq_back ?_
  exact zk_icmp_eq (hC0 Ir' Jr') ⟨dL_law_164, rfl⟩ 657 rfl (fun _ => kk I' J' Ir' Jr' hS') (fun q => absurd rfl q)
set_option maxRecDepth 100000 in
theorem lq_clear (hH : lq_H Y ad0 ad1 E b L xs) (hi : i + 10 ≤ L) (kk : lq_At Y ad0 ad1 E b 657 i) : lq_At Y ad0 ad1 E b 169 i := by
  intro I J Ir Jr hS
  obtain ⟨hC0, hC1, hX, hL⟩ := hH
  refine zk_aload_n (k := 1) (hC0 Ir Jr) rfl ⟨dL_law_169, rfl⟩ ?_
  refine lq_argC (k := 1) (hC0 Ir Jr) hX hi hL (by decide) rfl rfl (by decide +kernel) ⟨dL_law_170, rfl⟩ ⟨dL_law_171, rfl⟩ ⟨dL_law_172, rfl⟩ ⟨dL_law_173, rfl⟩ ⟨dL_law_174, rfl⟩ ?_
  obtain ⟨x, I', J', Ir', Jr', c1, c2, hk, hS'⟩ := sm_clear hS (xs (i + 1))
  obtain ⟨y, rfl⟩ := sm_kI hk
  refine zk_callV1 (k := 0) (hC0 Ir Jr) ml_L_20 mi_X4_clear (c1 _) ⟨(Nat.le_of_ble_eq_true rfl), (Nat.le_of_ble_eq_true rfl)⟩ (Nat.le_of_ble_eq_true rfl) rfl rfl rfl rfl (Nat.le_of_ble_eq_true rfl) ⟨dL_law_175, rfl⟩ ?_
  refine zk_aload_n (k := 2) (hC0 Ir Jr) rfl ⟨dL_law_178, rfl⟩ ?_
  refine lq_argC (k := 1) (hC0 Ir Jr) hX hi hL (by decide) rfl rfl (by decide +kernel) ⟨dL_law_179, rfl⟩ ⟨dL_law_180, rfl⟩ ⟨dL_law_181, rfl⟩ ⟨dL_law_182, rfl⟩ ⟨dL_law_183, rfl⟩ ?_
  refine lq_swap ?_
  refine zk_callV1 (k := 0) (hC1 I' J') ml_L_24 mi_X5_clear (c2 _) ⟨(Nat.le_of_ble_eq_true rfl), (Nat.le_of_ble_eq_true rfl)⟩ (Nat.le_of_ble_eq_true rfl) rfl rfl rfl rfl (Nat.le_of_ble_eq_true rfl) ⟨dL_law_184, rfl⟩ ?_
  refine lq_back ?_
  exact zk_icmp_eq (hC0 Ir' Jr') ⟨dL_law_187, rfl⟩ 657 rfl (fun _ => kk I' J' Ir' Jr' hS') (fun q => absurd rfl q)
set_option maxRecDepth 100000 in
theorem lq_size (hH : lq_H Y ad0 ad1 E b L xs) (hi : i + 10 ≤ L) (kk : lq_At Y ad0 ad1 E b 657 i) : lq_At Y ad0 ad1 E b 192 i := by
  intro I J Ir Jr hS
  obtain ⟨hC0, hC1, hX, hL⟩ := hH
  refine zk_aload_n (k := 1) (hC0 Ir Jr) rfl ⟨dL_law_192, rfl⟩ ?_
  refine lq_argC (k := 1) (hC0 Ir Jr) hX hi hL (by decide) rfl rfl (by decide +kernel) ⟨dL_law_193, rfl⟩ ⟨dL_law_194, rfl⟩ ⟨dL_law_195, rfl⟩ ⟨dL_law_196, rfl⟩ ⟨dL_law_197, rfl⟩ ?_
  obtain ⟨x, I', J', Ir', Jr', c1, c2, hk, hS'⟩ := sm_size hS (xs (i + 1))
  obtain ⟨y, rfl⟩ := sm_kI hk
  refine zk_callV1 (k := 0) (hC0 Ir Jr) ml_L_25 mi_X4_size (c1 _) ⟨(Nat.le_of_ble_eq_true rfl), (Nat.le_of_ble_eq_true rfl)⟩ (Nat.le_of_ble_eq_true rfl) rfl rfl rfl rfl (Nat.le_of_ble_eq_true rfl) ⟨dL_law_198, rfl⟩ ?_
  refine zk_aload_n (k := 2) (hC0 Ir Jr) rfl ⟨dL_law_201, rfl⟩ ?_
  refine lq_argC (k := 1) (hC0 Ir Jr) hX hi hL (by decide) rfl rfl (by decide +kernel) ⟨dL_law_202, rfl⟩ ⟨dL_law_203, rfl⟩ ⟨dL_law_204, rfl⟩ ⟨dL_law_205, rfl⟩ ⟨dL_law_206, rfl⟩ ?_
  refine lq_swap ?_
  refine zk_callV1 (k := 0) (hC1 I' J') ml_L_28 mi_X5_size (c2 _) ⟨(Nat.le_of_ble_eq_true rfl), (Nat.le_of_ble_eq_true rfl)⟩ (Nat.le_of_ble_eq_true rfl) rfl rfl rfl rfl (Nat.le_of_ble_eq_true rfl) ⟨dL_law_207, rfl⟩ ?_
  refine lq_back ?_
  exact zk_icmp_eq (hC0 Ir' Jr') ⟨dL_law_210, rfl⟩ 657 rfl (fun _ => kk I' J' Ir' Jr' hS') (fun q => absurd rfl q)
set_option maxRecDepth 100000 in
theorem lq_at (hH : lq_H Y ad0 ad1 E b L xs) (hi : i + 10 ≤ L) (kk : lq_At Y ad0 ad1 E b 657 i) : lq_At Y ad0 ad1 E b 215 i := by
  intro I J Ir Jr hS
  obtain ⟨hC0, hC1, hX, hL⟩ := hH
  refine zk_aload_n (k := 1) (hC0 Ir Jr) rfl ⟨dL_law_215, rfl⟩ ?_
  refine lq_argC (k := 1) (hC0 Ir Jr) hX hi hL (by decide) rfl rfl (by decide +kernel) ⟨dL_law_216, rfl⟩ ⟨dL_law_217, rfl⟩ ⟨dL_law_218, rfl⟩ ⟨dL_law_219, rfl⟩ ⟨dL_law_220, rfl⟩ ?_
  refine lq_argC (k := 2) (hC0 Ir Jr) hX hi hL (by decide) rfl rfl (by decide +kernel) ⟨dL_law_221, rfl⟩ ⟨dL_law_222, rfl⟩ ⟨dL_law_223, rfl⟩ ⟨dL_law_224, rfl⟩ ⟨dL_law_225, rfl⟩ ?_
  obtain ⟨x, I', J', Ir', Jr', c1, c2, hk, hS'⟩ := sm_at hS (xs (i + 1)) (xs (i + 2))
  obtain ⟨y, rfl⟩ := sm_kI hk
  refine zk_callV1 (k := 0) (hC0 Ir Jr) ml_L_29 mi_X4_at (c1 _) ⟨(Nat.le_of_ble_eq_true rfl), (Nat.le_of_ble_eq_true rfl)⟩ (Nat.le_of_ble_eq_true rfl) rfl rfl rfl rfl (Nat.le_of_ble_eq_true rfl) ⟨dL_law_226, rfl⟩ ?_
  refine zk_aload_n (k := 2) (hC0 Ir Jr) rfl ⟨dL_law_229, rfl⟩ ?_
  refine lq_argC (k := 1) (hC0 Ir Jr) hX hi hL (by decide) rfl rfl (by decide +kernel) ⟨dL_law_230, rfl⟩ ⟨dL_law_231, rfl⟩ ⟨dL_law_232, rfl⟩ ⟨dL_law_233, rfl⟩ ⟨dL_law_234, rfl⟩ ?_
  refine lq_argC (k := 2) (hC0 Ir Jr) hX hi hL (by decide) rfl rfl (by decide +kernel) ⟨dL_law_235, rfl⟩ ⟨dL_law_236, rfl⟩ ⟨dL_law_237, rfl⟩ ⟨dL_law_238, rfl⟩ ⟨dL_law_239, rfl⟩ ?_
  refine lq_swap ?_
  refine zk_callV1 (k := 0) (hC1 I' J') ml_L_33 mi_X5_at (c2 _) ⟨(Nat.le_of_ble_eq_true rfl), (Nat.le_of_ble_eq_true rfl)⟩ (Nat.le_of_ble_eq_true rfl) rfl rfl rfl rfl (Nat.le_of_ble_eq_true rfl) ⟨dL_law_240, rfl⟩ ?_
  refine lq_back ?_
  exact zk_icmp_eq (hC0 Ir' Jr') ⟨dL_law_243, rfl⟩ 657 rfl (fun _ => kk I' J' Ir' Jr' hS') (fun q => absurd rfl q)
set_option maxRecDepth 100000 in
theorem lq_hash (hH : lq_H Y ad0 ad1 E b L xs) (hi : i + 10 ≤ L) (kk : lq_At Y ad0 ad1 E b 657 i) : lq_At Y ad0 ad1 E b 248 i := by
  intro I J Ir Jr hS
  obtain ⟨hC0, hC1, hX, hL⟩ := hH
  refine zk_aload_n (k := 1) (hC0 Ir Jr) rfl ⟨dL_law_248, rfl⟩ ?_
  refine lq_argC (k := 1) (hC0 Ir Jr) hX hi hL (by decide) rfl rfl (by decide +kernel) ⟨dL_law_249, rfl⟩ ⟨dL_law_250, rfl⟩ ⟨dL_law_251, rfl⟩ ⟨dL_law_252, rfl⟩ ⟨dL_law_253, rfl⟩ ?_
  refine lq_argC (k := 2) (hC0 Ir Jr) hX hi hL (by decide) rfl rfl (by decide +kernel) ⟨dL_law_254, rfl⟩ ⟨dL_law_255, rfl⟩ ⟨dL_law_256, rfl⟩ ⟨dL_law_257, rfl⟩ ⟨dL_law_258, rfl⟩ ?_
  refine lq_argC (k := 3) (hC0 Ir Jr) hX hi hL (by decide) rfl rfl (by decide +kernel) ⟨dL_law_259, rfl⟩ ⟨dL_law_260, rfl⟩ ⟨dL_law_261, rfl⟩ ⟨dL_law_262, rfl⟩ ⟨dL_law_263, rfl⟩ ?_
  refine lq_argC (k := 4) (hC0 Ir Jr) hX hi hL (by decide) rfl rfl (by decide +kernel) ⟨dL_law_264, rfl⟩ ⟨dL_law_265, rfl⟩ ⟨dL_law_266, rfl⟩ ⟨dL_law_267, rfl⟩ ⟨dL_law_268, rfl⟩ ?_
  obtain ⟨x, I', J', Ir', Jr', c1, c2, hk, hS'⟩ := sm_hash hS (xs (i + 1)) (xs (i + 2)) (xs (i + 3)) (xs (i + 4))
  obtain ⟨y, rfl⟩ := sm_kI hk
  refine zk_callV1 (k := 0) (hC0 Ir Jr) ml_L_34 mi_X4_hash (c1 _) ⟨(Nat.le_of_ble_eq_true rfl), (Nat.le_of_ble_eq_true rfl)⟩ (Nat.le_of_ble_eq_true rfl) rfl rfl rfl rfl (Nat.le_of_ble_eq_true rfl) ⟨dL_law_269, rfl⟩ ?_
  refine zk_aload_n (k := 2) (hC0 Ir Jr) rfl ⟨dL_law_272, rfl⟩ ?_
  refine lq_argC (k := 1) (hC0 Ir Jr) hX hi hL (by decide) rfl rfl (by decide +kernel) ⟨dL_law_273, rfl⟩ ⟨dL_law_274, rfl⟩ ⟨dL_law_275, rfl⟩ ⟨dL_law_276, rfl⟩ ⟨dL_law_277, rfl⟩ ?_
  refine lq_argC (k := 2) (hC0 Ir Jr) hX hi hL (by decide) rfl rfl (by decide +kernel) ⟨dL_law_278, rfl⟩ ⟨dL_law_279, rfl⟩ ⟨dL_law_280, rfl⟩ ⟨dL_law_281, rfl⟩ ⟨dL_law_282, rfl⟩ ?_
  refine lq_argC (k := 3) (hC0 Ir Jr) hX hi hL (by decide) rfl rfl (by decide +kernel) ⟨dL_law_283, rfl⟩ ⟨dL_law_284, rfl⟩ ⟨dL_law_285, rfl⟩ ⟨dL_law_286, rfl⟩ ⟨dL_law_287, rfl⟩ ?_
  refine lq_argC (k := 4) (hC0 Ir Jr) hX hi hL (by decide) rfl rfl (by decide +kernel) ⟨dL_law_288, rfl⟩ ⟨dL_law_289, rfl⟩ ⟨dL_law_290, rfl⟩ ⟨dL_law_291, rfl⟩ ⟨dL_law_292, rfl⟩ ?_
  refine lq_swap ?_
  refine zk_callV1 (k := 0) (hC1 I' J') ml_L_38 mi_X5_hash (c2 _) ⟨(Nat.le_of_ble_eq_true rfl), (Nat.le_of_ble_eq_true rfl)⟩ (Nat.le_of_ble_eq_true rfl) rfl rfl rfl rfl (Nat.le_of_ble_eq_true rfl) ⟨dL_law_293, rfl⟩ ?_
  refine lq_back ?_
  exact zk_icmp_eq (hC0 Ir' Jr') ⟨dL_law_296, rfl⟩ 657 rfl (fun _ => kk I' J' Ir' Jr' hS') (fun q => absurd rfl q)
set_option maxRecDepth 100000 in
theorem lq_longHash (hH : lq_H Y ad0 ad1 E b L xs) (hi : i + 10 ≤ L) (kk : lq_At Y ad0 ad1 E b 657 i) : lq_At Y ad0 ad1 E b 301 i := by
  intro I J Ir Jr hS
  obtain ⟨hC0, hC1, hX, hL⟩ := hH
  refine zk_aload_n (k := 1) (hC0 Ir Jr) rfl ⟨dL_law_301, rfl⟩ ?_
  refine lq_argC (k := 1) (hC0 Ir Jr) hX hi hL (by decide) rfl rfl (by decide +kernel) ⟨dL_law_302, rfl⟩ ⟨dL_law_303, rfl⟩ ⟨dL_law_304, rfl⟩ ⟨dL_law_305, rfl⟩ ⟨dL_law_306, rfl⟩ ?_
  refine lq_argC (k := 2) (hC0 Ir Jr) hX hi hL (by decide) rfl rfl (by decide +kernel) ⟨dL_law_307, rfl⟩ ⟨dL_law_308, rfl⟩ ⟨dL_law_309, rfl⟩ ⟨dL_law_310, rfl⟩ ⟨dL_law_311, rfl⟩ ?_
  refine lq_argC (k := 3) (hC0 Ir Jr) hX hi hL (by decide) rfl rfl (by decide +kernel) ⟨dL_law_312, rfl⟩ ⟨dL_law_313, rfl⟩ ⟨dL_law_314, rfl⟩ ⟨dL_law_315, rfl⟩ ⟨dL_law_316, rfl⟩ ?_
  obtain ⟨x, I', J', Ir', Jr', c1, c2, hk, hS'⟩ := sm_longHash hS (xs (i + 1)) (xs (i + 2)) (xs (i + 3))
  obtain ⟨y, rfl⟩ := sm_kI hk
  refine zk_callV1 (k := 0) (hC0 Ir Jr) ml_L_39 mi_X4_longHash (c1 _) ⟨(Nat.le_of_ble_eq_true rfl), (Nat.le_of_ble_eq_true rfl)⟩ (Nat.le_of_ble_eq_true rfl) rfl rfl rfl rfl (Nat.le_of_ble_eq_true rfl) ⟨dL_law_317, rfl⟩ ?_
  refine zk_aload_n (k := 2) (hC0 Ir Jr) rfl ⟨dL_law_320, rfl⟩ ?_
  refine lq_argC (k := 1) (hC0 Ir Jr) hX hi hL (by decide) rfl rfl (by decide +kernel) ⟨dL_law_321, rfl⟩ ⟨dL_law_322, rfl⟩ ⟨dL_law_323, rfl⟩ ⟨dL_law_324, rfl⟩ ⟨dL_law_325, rfl⟩ ?_
  refine lq_argC (k := 2) (hC0 Ir Jr) hX hi hL (by decide) rfl rfl (by decide +kernel) ⟨dL_law_326, rfl⟩ ⟨dL_law_327, rfl⟩ ⟨dL_law_328, rfl⟩ ⟨dL_law_329, rfl⟩ ⟨dL_law_330, rfl⟩ ?_
  refine lq_argC (k := 3) (hC0 Ir Jr) hX hi hL (by decide) rfl rfl (by decide +kernel) ⟨dL_law_331, rfl⟩ ⟨dL_law_332, rfl⟩ ⟨dL_law_333, rfl⟩ ⟨dL_law_334, rfl⟩ ⟨dL_law_335, rfl⟩ ?_
  refine lq_swap ?_
  refine zk_callV1 (k := 0) (hC1 I' J') ml_L_43 mi_X5_longHash (c2 _) ⟨(Nat.le_of_ble_eq_true rfl), (Nat.le_of_ble_eq_true rfl)⟩ (Nat.le_of_ble_eq_true rfl) rfl rfl rfl rfl (Nat.le_of_ble_eq_true rfl) ⟨dL_law_336, rfl⟩ ?_
  refine lq_back ?_
  exact zk_icmp_eq (hC0 Ir' Jr') ⟨dL_law_339, rfl⟩ 657 rfl (fun _ => kk I' J' Ir' Jr' hS') (fun q => absurd rfl q)
set_option maxRecDepth 100000 in
theorem lq_begin (hH : lq_H Y ad0 ad1 E b L xs) (hi : i + 10 ≤ L) (kk : lq_At Y ad0 ad1 E b 657 i) : lq_At Y ad0 ad1 E b 344 i := by
  intro I J Ir Jr hS
  obtain ⟨hC0, hC1, hX, hL⟩ := hH
  refine zk_aload_n (k := 1) (hC0 Ir Jr) rfl ⟨dL_law_344, rfl⟩ ?_
  refine lq_argC (k := 1) (hC0 Ir Jr) hX hi hL (by decide) rfl rfl (by decide +kernel) ⟨dL_law_345, rfl⟩ ⟨dL_law_346, rfl⟩ ⟨dL_law_347, rfl⟩ ⟨dL_law_348, rfl⟩ ⟨dL_law_349, rfl⟩ ?_
  refine lq_argC (k := 2) (hC0 Ir Jr) hX hi hL (by decide) rfl rfl (by decide +kernel) ⟨dL_law_350, rfl⟩ ⟨dL_law_351, rfl⟩ ⟨dL_law_352, rfl⟩ ⟨dL_law_353, rfl⟩ ⟨dL_law_354, rfl⟩ ?_
  refine lq_argC (k := 3) (hC0 Ir Jr) hX hi hL (by decide) rfl rfl (by decide +kernel) ⟨dL_law_355, rfl⟩ ⟨dL_law_356, rfl⟩ ⟨dL_law_357, rfl⟩ ⟨dL_law_358, rfl⟩ ⟨dL_law_359, rfl⟩ ?_
  refine lq_argC (k := 4) (hC0 Ir Jr) hX hi hL (by decide) rfl rfl (by decide +kernel) ⟨dL_law_360, rfl⟩ ⟨dL_law_361, rfl⟩ ⟨dL_law_362, rfl⟩ ⟨dL_law_363, rfl⟩ ⟨dL_law_364, rfl⟩ ?_
  refine lq_argC (k := 5) (hC0 Ir Jr) hX hi hL (by decide) rfl rfl (by decide +kernel) ⟨dL_law_365, rfl⟩ ⟨dL_law_366, rfl⟩ ⟨dL_law_367, rfl⟩ ⟨dL_law_368, rfl⟩ ⟨dL_law_369, rfl⟩ ?_
  refine lq_argB (k := 6) (hC0 Ir Jr) hX hi hL (by decide) rfl rfl (by decide +kernel) ⟨dL_law_370, rfl⟩ ⟨dL_law_371, rfl⟩ ⟨dL_law_372, rfl⟩ ⟨dL_law_374, rfl⟩ ⟨dL_law_375, rfl⟩ ?_
  refine lq_argB (k := 7) (hC0 Ir Jr) hX hi hL (by decide) rfl rfl (by decide +kernel) ⟨dL_law_376, rfl⟩ ⟨dL_law_377, rfl⟩ ⟨dL_law_378, rfl⟩ ⟨dL_law_380, rfl⟩ ⟨dL_law_381, rfl⟩ ?_
  refine lq_argB (k := 8) (hC0 Ir Jr) hX hi hL (by decide) rfl rfl (by decide +kernel) ⟨dL_law_382, rfl⟩ ⟨dL_law_383, rfl⟩ ⟨dL_law_384, rfl⟩ ⟨dL_law_386, rfl⟩ ⟨dL_law_387, rfl⟩ ?_
  refine lq_argB (k := 9) (hC0 Ir Jr) hX hi hL (by decide) rfl rfl (by decide +kernel) ⟨dL_law_388, rfl⟩ ⟨dL_law_389, rfl⟩ ⟨dL_law_390, rfl⟩ ⟨dL_law_392, rfl⟩ ⟨dL_law_393, rfl⟩ ?_
  obtain ⟨x, I', J', Ir', Jr', c1, c2, hk, hS'⟩ := sm_begin hS (xs (i + 1)) (xs (i + 2)) (xs (i + 3)) (xs (i + 4)) (xs (i + 5)) (xs (i + 6)) (xs (i + 7)) (xs (i + 8)) (xs (i + 9))
  obtain ⟨y, rfl⟩ := sm_kI hk
  refine zk_callV1 (k := 0) (hC0 Ir Jr) ml_L_44 mi_X4_begin (c1 _) ⟨(Nat.le_of_ble_eq_true rfl), (Nat.le_of_ble_eq_true rfl)⟩ (Nat.le_of_ble_eq_true rfl) rfl rfl rfl rfl (Nat.le_of_ble_eq_true rfl) ⟨dL_law_394, rfl⟩ ?_
  refine zk_aload_n (k := 2) (hC0 Ir Jr) rfl ⟨dL_law_397, rfl⟩ ?_
  refine lq_argC (k := 1) (hC0 Ir Jr) hX hi hL (by decide) rfl rfl (by decide +kernel) ⟨dL_law_398, rfl⟩ ⟨dL_law_399, rfl⟩ ⟨dL_law_400, rfl⟩ ⟨dL_law_401, rfl⟩ ⟨dL_law_402, rfl⟩ ?_
  refine lq_argC (k := 2) (hC0 Ir Jr) hX hi hL (by decide) rfl rfl (by decide +kernel) ⟨dL_law_403, rfl⟩ ⟨dL_law_404, rfl⟩ ⟨dL_law_405, rfl⟩ ⟨dL_law_406, rfl⟩ ⟨dL_law_407, rfl⟩ ?_
  refine lq_argC (k := 3) (hC0 Ir Jr) hX hi hL (by decide) rfl rfl (by decide +kernel) ⟨dL_law_408, rfl⟩ ⟨dL_law_409, rfl⟩ ⟨dL_law_410, rfl⟩ ⟨dL_law_411, rfl⟩ ⟨dL_law_412, rfl⟩ ?_
  refine lq_argC (k := 4) (hC0 Ir Jr) hX hi hL (by decide) rfl rfl (by decide +kernel) ⟨dL_law_413, rfl⟩ ⟨dL_law_414, rfl⟩ ⟨dL_law_415, rfl⟩ ⟨dL_law_416, rfl⟩ ⟨dL_law_417, rfl⟩ ?_
  refine lq_argC (k := 5) (hC0 Ir Jr) hX hi hL (by decide) rfl rfl (by decide +kernel) ⟨dL_law_418, rfl⟩ ⟨dL_law_419, rfl⟩ ⟨dL_law_420, rfl⟩ ⟨dL_law_421, rfl⟩ ⟨dL_law_422, rfl⟩ ?_
  refine lq_argB (k := 6) (hC0 Ir Jr) hX hi hL (by decide) rfl rfl (by decide +kernel) ⟨dL_law_423, rfl⟩ ⟨dL_law_424, rfl⟩ ⟨dL_law_425, rfl⟩ ⟨dL_law_427, rfl⟩ ⟨dL_law_428, rfl⟩ ?_
  refine lq_argB (k := 7) (hC0 Ir Jr) hX hi hL (by decide) rfl rfl (by decide +kernel) ⟨dL_law_429, rfl⟩ ⟨dL_law_430, rfl⟩ ⟨dL_law_431, rfl⟩ ⟨dL_law_433, rfl⟩ ⟨dL_law_434, rfl⟩ ?_
  refine lq_argB (k := 8) (hC0 Ir Jr) hX hi hL (by decide) rfl rfl (by decide +kernel) ⟨dL_law_435, rfl⟩ ⟨dL_law_436, rfl⟩ ⟨dL_law_437, rfl⟩ ⟨dL_law_439, rfl⟩ ⟨dL_law_440, rfl⟩ ?_
  refine lq_argB (k := 9) (hC0 Ir Jr) hX hi hL (by decide) rfl rfl (by decide +kernel) ⟨dL_law_441, rfl⟩ ⟨dL_law_442, rfl⟩ ⟨dL_law_443, rfl⟩ ⟨dL_law_445, rfl⟩ ⟨dL_law_446, rfl⟩ ?_
  refine lq_swap ?_
  refine zk_callV1 (k := 0) (hC1 I' J') ml_L_48 mi_X5_begin (c2 _) ⟨(Nat.le_of_ble_eq_true rfl), (Nat.le_of_ble_eq_true rfl)⟩ (Nat.le_of_ble_eq_true rfl) rfl rfl rfl rfl (Nat.le_of_ble_eq_true rfl) ⟨dL_law_447, rfl⟩ ?_
  refine lq_back ?_
  exact zk_icmp_eq (hC0 Ir' Jr') ⟨dL_law_450, rfl⟩ 657 rfl (fun _ => kk I' J' Ir' Jr' hS') (fun q => absurd rfl q)
set_option maxRecDepth 100000 in
theorem lq_fill (hH : lq_H Y ad0 ad1 E b L xs) (hi : i + 10 ≤ L) (kk : lq_At Y ad0 ad1 E b 657 i) : lq_At Y ad0 ad1 E b 455 i := by
  intro I J Ir Jr hS
  obtain ⟨hC0, hC1, hX, hL⟩ := hH
  refine zk_aload_n (k := 1) (hC0 Ir Jr) rfl ⟨dL_law_455, rfl⟩ ?_
  refine lq_argC (k := 1) (hC0 Ir Jr) hX hi hL (by decide) rfl rfl (by decide +kernel) ⟨dL_law_456, rfl⟩ ⟨dL_law_457, rfl⟩ ⟨dL_law_458, rfl⟩ ⟨dL_law_459, rfl⟩ ⟨dL_law_460, rfl⟩ ?_
  obtain ⟨x, I', J', Ir', Jr', c1, c2, hk, hS'⟩ := sm_fill hS (xs (i + 1))
  obtain ⟨y, rfl⟩ := sm_kI hk
  refine zk_callV1 (k := 0) (hC0 Ir Jr) ml_L_49 mi_X4_fill (c1 _) ⟨(Nat.le_of_ble_eq_true rfl), (Nat.le_of_ble_eq_true rfl)⟩ (Nat.le_of_ble_eq_true rfl) rfl rfl rfl rfl (Nat.le_of_ble_eq_true rfl) ⟨dL_law_461, rfl⟩ ?_
  refine zk_aload_n (k := 2) (hC0 Ir Jr) rfl ⟨dL_law_464, rfl⟩ ?_
  refine lq_argC (k := 1) (hC0 Ir Jr) hX hi hL (by decide) rfl rfl (by decide +kernel) ⟨dL_law_465, rfl⟩ ⟨dL_law_466, rfl⟩ ⟨dL_law_467, rfl⟩ ⟨dL_law_468, rfl⟩ ⟨dL_law_469, rfl⟩ ?_
  refine lq_swap ?_
  refine zk_callV1 (k := 0) (hC1 I' J') ml_L_52 mi_X5_fill (c2 _) ⟨(Nat.le_of_ble_eq_true rfl), (Nat.le_of_ble_eq_true rfl)⟩ (Nat.le_of_ble_eq_true rfl) rfl rfl rfl rfl (Nat.le_of_ble_eq_true rfl) ⟨dL_law_470, rfl⟩ ?_
  refine lq_back ?_
  exact zk_icmp_eq (hC0 Ir' Jr') ⟨dL_law_473, rfl⟩ 657 rfl (fun _ => kk I' J' Ir' Jr' hS') (fun q => absurd rfl q)
set_option maxRecDepth 100000 in
theorem lq_word (hH : lq_H Y ad0 ad1 E b L xs) (hi : i + 10 ≤ L) (kk : lq_At Y ad0 ad1 E b 657 i) : lq_At Y ad0 ad1 E b 478 i := by
  intro I J Ir Jr hS
  obtain ⟨hC0, hC1, hX, hL⟩ := hH
  refine zk_aload_n (k := 1) (hC0 Ir Jr) rfl ⟨dL_law_478, rfl⟩ ?_
  refine lq_argC (k := 1) (hC0 Ir Jr) hX hi hL (by decide) rfl rfl (by decide +kernel) ⟨dL_law_479, rfl⟩ ⟨dL_law_480, rfl⟩ ⟨dL_law_481, rfl⟩ ⟨dL_law_482, rfl⟩ ⟨dL_law_483, rfl⟩ ?_
  refine lq_argC (k := 2) (hC0 Ir Jr) hX hi hL (by decide) rfl rfl (by decide +kernel) ⟨dL_law_484, rfl⟩ ⟨dL_law_485, rfl⟩ ⟨dL_law_486, rfl⟩ ⟨dL_law_487, rfl⟩ ⟨dL_law_488, rfl⟩ ?_
  obtain ⟨x, I', J', Ir', Jr', c1, c2, hk, hS'⟩ := sm_word hS (xs (i + 1)) (xs (i + 2))
  obtain ⟨y, rfl⟩ := sm_kL hk
  refine zk_callV1 (k := 0) (hC0 Ir Jr) ml_L_53 mi_X4_word (c1 _) ⟨(Nat.le_of_ble_eq_true rfl), (Nat.le_of_ble_eq_true rfl)⟩ (Nat.le_of_ble_eq_true rfl) rfl rfl rfl rfl (Nat.le_of_ble_eq_true rfl) ⟨dL_law_489, rfl⟩ ?_
  refine zk_aload_n (k := 2) (hC0 Ir Jr) rfl ⟨dL_law_492, rfl⟩ ?_
  refine lq_argC (k := 1) (hC0 Ir Jr) hX hi hL (by decide) rfl rfl (by decide +kernel) ⟨dL_law_493, rfl⟩ ⟨dL_law_494, rfl⟩ ⟨dL_law_495, rfl⟩ ⟨dL_law_496, rfl⟩ ⟨dL_law_497, rfl⟩ ?_
  refine lq_argC (k := 2) (hC0 Ir Jr) hX hi hL (by decide) rfl rfl (by decide +kernel) ⟨dL_law_498, rfl⟩ ⟨dL_law_499, rfl⟩ ⟨dL_law_500, rfl⟩ ⟨dL_law_501, rfl⟩ ⟨dL_law_502, rfl⟩ ?_
  refine lq_swap ?_
  refine zk_callV1 (k := 0) (hC1 I' J') ml_L_57 mi_X5_word (c2 _) ⟨(Nat.le_of_ble_eq_true rfl), (Nat.le_of_ble_eq_true rfl)⟩ (Nat.le_of_ble_eq_true rfl) rfl rfl rfl rfl (Nat.le_of_ble_eq_true rfl) ⟨dL_law_503, rfl⟩ ?_
  refine lq_back ?_
  refine zk_lcmp (hC0 Ir' Jr') ⟨dL_law_506, rfl⟩ ?_
  rw [lq_cmp]
  exact zk_if_eq (hC0 Ir' Jr') ⟨dL_law_507, rfl⟩ 657 rfl (fun _ => kk I' J' Ir' Jr' hS') (fun q => absurd rfl q)
set_option maxRecDepth 100000 in
theorem lq_tag (hH : lq_H Y ad0 ad1 E b L xs) (hi : i + 10 ≤ L) (kk : lq_At Y ad0 ad1 E b 657 i) : lq_At Y ad0 ad1 E b 512 i := by
  intro I J Ir Jr hS
  obtain ⟨hC0, hC1, hX, hL⟩ := hH
  refine zk_aload_n (k := 1) (hC0 Ir Jr) rfl ⟨dL_law_512, rfl⟩ ?_
  refine lq_argC (k := 1) (hC0 Ir Jr) hX hi hL (by decide) rfl rfl (by decide +kernel) ⟨dL_law_513, rfl⟩ ⟨dL_law_514, rfl⟩ ⟨dL_law_515, rfl⟩ ⟨dL_law_516, rfl⟩ ⟨dL_law_517, rfl⟩ ?_
  obtain ⟨x, I', J', Ir', Jr', c1, c2, hk, hS'⟩ := sm_tag hS (xs (i + 1))
  obtain ⟨y, rfl⟩ := sm_kI hk
  refine zk_callV1 (k := 0) (hC0 Ir Jr) ml_L_58 mi_X4_tag (c1 _) ⟨(Nat.le_of_ble_eq_true rfl), (Nat.le_of_ble_eq_true rfl)⟩ (Nat.le_of_ble_eq_true rfl) rfl rfl rfl rfl (Nat.le_of_ble_eq_true rfl) ⟨dL_law_518, rfl⟩ ?_
  refine zk_aload_n (k := 2) (hC0 Ir Jr) rfl ⟨dL_law_521, rfl⟩ ?_
  refine lq_argC (k := 1) (hC0 Ir Jr) hX hi hL (by decide) rfl rfl (by decide +kernel) ⟨dL_law_522, rfl⟩ ⟨dL_law_523, rfl⟩ ⟨dL_law_524, rfl⟩ ⟨dL_law_525, rfl⟩ ⟨dL_law_526, rfl⟩ ?_
  refine lq_swap ?_
  refine zk_callV1 (k := 0) (hC1 I' J') ml_L_61 mi_X5_tag (c2 _) ⟨(Nat.le_of_ble_eq_true rfl), (Nat.le_of_ble_eq_true rfl)⟩ (Nat.le_of_ble_eq_true rfl) rfl rfl rfl rfl (Nat.le_of_ble_eq_true rfl) ⟨dL_law_527, rfl⟩ ?_
  refine lq_back ?_
  exact zk_icmp_eq (hC0 Ir' Jr') ⟨dL_law_530, rfl⟩ 657 rfl (fun _ => kk I' J' Ir' Jr' hS') (fun q => absurd rfl q)
set_option maxRecDepth 100000 in
theorem lq_told (hH : lq_H Y ad0 ad1 E b L xs) (hi : i + 10 ≤ L) (kk : lq_At Y ad0 ad1 E b 657 i) : lq_At Y ad0 ad1 E b 535 i := by
  intro I J Ir Jr hS
  obtain ⟨hC0, hC1, hX, hL⟩ := hH
  refine zk_aload_n (k := 1) (hC0 Ir Jr) rfl ⟨dL_law_535, rfl⟩ ?_
  refine lq_argC (k := 1) (hC0 Ir Jr) hX hi hL (by decide) rfl rfl (by decide +kernel) ⟨dL_law_536, rfl⟩ ⟨dL_law_537, rfl⟩ ⟨dL_law_538, rfl⟩ ⟨dL_law_539, rfl⟩ ⟨dL_law_540, rfl⟩ ?_
  obtain ⟨x, I', J', Ir', Jr', c1, c2, hk, hS'⟩ := sm_told hS (xs (i + 1))
  obtain ⟨y, rfl⟩ := sm_kI hk
  refine zk_callV1 (k := 0) (hC0 Ir Jr) ml_L_62 mi_X4_told (c1 _) ⟨(Nat.le_of_ble_eq_true rfl), (Nat.le_of_ble_eq_true rfl)⟩ (Nat.le_of_ble_eq_true rfl) rfl rfl rfl rfl (Nat.le_of_ble_eq_true rfl) ⟨dL_law_541, rfl⟩ ?_
  refine zk_aload_n (k := 2) (hC0 Ir Jr) rfl ⟨dL_law_544, rfl⟩ ?_
  refine lq_argC (k := 1) (hC0 Ir Jr) hX hi hL (by decide) rfl rfl (by decide +kernel) ⟨dL_law_545, rfl⟩ ⟨dL_law_546, rfl⟩ ⟨dL_law_547, rfl⟩ ⟨dL_law_548, rfl⟩ ⟨dL_law_549, rfl⟩ ?_
  refine lq_swap ?_
  refine zk_callV1 (k := 0) (hC1 I' J') ml_L_65 mi_X5_told (c2 _) ⟨(Nat.le_of_ble_eq_true rfl), (Nat.le_of_ble_eq_true rfl)⟩ (Nat.le_of_ble_eq_true rfl) rfl rfl rfl rfl (Nat.le_of_ble_eq_true rfl) ⟨dL_law_550, rfl⟩ ?_
  refine lq_back ?_
  exact zk_icmp_eq (hC0 Ir' Jr') ⟨dL_law_553, rfl⟩ 657 rfl (fun _ => kk I' J' Ir' Jr' hS') (fun q => absurd rfl q)
set_option maxRecDepth 100000 in
theorem lq_seal (hH : lq_H Y ad0 ad1 E b L xs) (hi : i + 10 ≤ L) (kk : lq_At Y ad0 ad1 E b 657 i) : lq_At Y ad0 ad1 E b 558 i := by
  intro I J Ir Jr hS
  obtain ⟨hC0, hC1, hX, hL⟩ := hH
  refine zk_aload_n (k := 1) (hC0 Ir Jr) rfl ⟨dL_law_558, rfl⟩ ?_
  refine lq_argC (k := 1) (hC0 Ir Jr) hX hi hL (by decide) rfl rfl (by decide +kernel) ⟨dL_law_559, rfl⟩ ⟨dL_law_560, rfl⟩ ⟨dL_law_561, rfl⟩ ⟨dL_law_562, rfl⟩ ⟨dL_law_563, rfl⟩ ?_
  refine lq_argC (k := 2) (hC0 Ir Jr) hX hi hL (by decide) rfl rfl (by decide +kernel) ⟨dL_law_564, rfl⟩ ⟨dL_law_565, rfl⟩ ⟨dL_law_566, rfl⟩ ⟨dL_law_567, rfl⟩ ⟨dL_law_568, rfl⟩ ?_
  refine lq_argC (k := 3) (hC0 Ir Jr) hX hi hL (by decide) rfl rfl (by decide +kernel) ⟨dL_law_569, rfl⟩ ⟨dL_law_570, rfl⟩ ⟨dL_law_571, rfl⟩ ⟨dL_law_572, rfl⟩ ⟨dL_law_573, rfl⟩ ?_
  refine lq_argC (k := 4) (hC0 Ir Jr) hX hi hL (by decide) rfl rfl (by decide +kernel) ⟨dL_law_574, rfl⟩ ⟨dL_law_575, rfl⟩ ⟨dL_law_576, rfl⟩ ⟨dL_law_577, rfl⟩ ⟨dL_law_578, rfl⟩ ?_
  refine lq_argC (k := 5) (hC0 Ir Jr) hX hi hL (by decide) rfl rfl (by decide +kernel) ⟨dL_law_579, rfl⟩ ⟨dL_law_580, rfl⟩ ⟨dL_law_581, rfl⟩ ⟨dL_law_582, rfl⟩ ⟨dL_law_583, rfl⟩ ?_
  refine lq_argB (k := 6) (hC0 Ir Jr) hX hi hL (by decide) rfl rfl (by decide +kernel) ⟨dL_law_584, rfl⟩ ⟨dL_law_585, rfl⟩ ⟨dL_law_586, rfl⟩ ⟨dL_law_588, rfl⟩ ⟨dL_law_589, rfl⟩ ?_
  refine lq_argB (k := 7) (hC0 Ir Jr) hX hi hL (by decide) rfl rfl (by decide +kernel) ⟨dL_law_590, rfl⟩ ⟨dL_law_591, rfl⟩ ⟨dL_law_592, rfl⟩ ⟨dL_law_594, rfl⟩ ⟨dL_law_595, rfl⟩ ?_
  refine lq_argB (k := 8) (hC0 Ir Jr) hX hi hL (by decide) rfl rfl (by decide +kernel) ⟨dL_law_596, rfl⟩ ⟨dL_law_597, rfl⟩ ⟨dL_law_598, rfl⟩ ⟨dL_law_600, rfl⟩ ⟨dL_law_601, rfl⟩ ?_
  obtain ⟨x, I', J', Ir', Jr', c1, c2, hk, hS'⟩ := sm_seal hS (xs (i + 1)) (xs (i + 2)) (xs (i + 3)) (xs (i + 4)) (xs (i + 5)) (xs (i + 6)) (xs (i + 7)) (xs (i + 8))
  obtain ⟨y, rfl⟩ := sm_kI hk
  refine zk_callV1 (k := 0) (hC0 Ir Jr) ml_L_66 mi_X4_seal (c1 _) ⟨(Nat.le_of_ble_eq_true rfl), (Nat.le_of_ble_eq_true rfl)⟩ (Nat.le_of_ble_eq_true rfl) rfl rfl rfl rfl (Nat.le_of_ble_eq_true rfl) ⟨dL_law_602, rfl⟩ ?_
  refine zk_aload_n (k := 2) (hC0 Ir Jr) rfl ⟨dL_law_605, rfl⟩ ?_
  refine lq_argC (k := 1) (hC0 Ir Jr) hX hi hL (by decide) rfl rfl (by decide +kernel) ⟨dL_law_606, rfl⟩ ⟨dL_law_607, rfl⟩ ⟨dL_law_608, rfl⟩ ⟨dL_law_609, rfl⟩ ⟨dL_law_610, rfl⟩ ?_
  refine lq_argC (k := 2) (hC0 Ir Jr) hX hi hL (by decide) rfl rfl (by decide +kernel) ⟨dL_law_611, rfl⟩ ⟨dL_law_612, rfl⟩ ⟨dL_law_613, rfl⟩ ⟨dL_law_614, rfl⟩ ⟨dL_law_615, rfl⟩ ?_
  refine lq_argC (k := 3) (hC0 Ir Jr) hX hi hL (by decide) rfl rfl (by decide +kernel) ⟨dL_law_616, rfl⟩ ⟨dL_law_617, rfl⟩ ⟨dL_law_618, rfl⟩ ⟨dL_law_619, rfl⟩ ⟨dL_law_620, rfl⟩ ?_
  refine lq_argC (k := 4) (hC0 Ir Jr) hX hi hL (by decide) rfl rfl (by decide +kernel) ⟨dL_law_621, rfl⟩ ⟨dL_law_622, rfl⟩ ⟨dL_law_623, rfl⟩ ⟨dL_law_624, rfl⟩ ⟨dL_law_625, rfl⟩ ?_
  refine lq_argC (k := 5) (hC0 Ir Jr) hX hi hL (by decide) rfl rfl (by decide +kernel) ⟨dL_law_626, rfl⟩ ⟨dL_law_627, rfl⟩ ⟨dL_law_628, rfl⟩ ⟨dL_law_629, rfl⟩ ⟨dL_law_630, rfl⟩ ?_
  refine lq_argB (k := 6) (hC0 Ir Jr) hX hi hL (by decide) rfl rfl (by decide +kernel) ⟨dL_law_631, rfl⟩ ⟨dL_law_632, rfl⟩ ⟨dL_law_633, rfl⟩ ⟨dL_law_635, rfl⟩ ⟨dL_law_636, rfl⟩ ?_
  refine lq_argB (k := 7) (hC0 Ir Jr) hX hi hL (by decide) rfl rfl (by decide +kernel) ⟨dL_law_637, rfl⟩ ⟨dL_law_638, rfl⟩ ⟨dL_law_639, rfl⟩ ⟨dL_law_641, rfl⟩ ⟨dL_law_642, rfl⟩ ?_
  refine lq_argB (k := 8) (hC0 Ir Jr) hX hi hL (by decide) rfl rfl (by decide +kernel) ⟨dL_law_643, rfl⟩ ⟨dL_law_644, rfl⟩ ⟨dL_law_645, rfl⟩ ⟨dL_law_647, rfl⟩ ⟨dL_law_648, rfl⟩ ?_
  refine lq_swap ?_
  refine zk_callV1 (k := 0) (hC1 I' J') ml_L_70 mi_X5_seal (c2 _) ⟨(Nat.le_of_ble_eq_true rfl), (Nat.le_of_ble_eq_true rfl)⟩ (Nat.le_of_ble_eq_true rfl) rfl rfl rfl rfl (Nat.le_of_ble_eq_true rfl) ⟨dL_law_649, rfl⟩ ?_
  refine lq_back ?_
  exact zk_icmp_eq (hC0 Ir' Jr') ⟨dL_law_652, rfl⟩ 657 rfl (fun _ => kk I' J' Ir' Jr' hS') (fun q => absurd rfl q)
theorem lq_and15 (x : Int32) : x &&& nI 15 = nI (qx_n x % 16) := by
  have := pk_and x (m := nI 15) 4 (by decide +kernel)
  exact this
theorem lq_neg : ∀ L, L < 10 → nI L - nI 10 < 0 := by decide +kernel
set_option maxRecDepth 100000 in
/-- one word of the script -/
theorem lq_one (hH : lq_H Y ad0 ad1 E b L xs) (hi : i + 10 ≤ L) (kk : lq_At Y ad0 ad1 E b 657 i) : lq_At Y ad0 ad1 E b 27 i := by
  intro I J Ir Jr hS
  obtain ⟨hC0, hC1, hX, hL⟩ := hH
  refine zk_aload_n (k := 0) (hC0 Ir Jr) rfl ⟨dL_law_27, rfl⟩ ?_
  refine zk_iload_n (k := 3) (hC0 Ir Jr) rfl ⟨dL_law_28, rfl⟩ ?_
  refine lq_sld (hC0 Ir Jr) hX (by omega) hL ⟨dL_law_29, rfl⟩ ?_
  refine zk_bipush (hC0 Ir Jr) ⟨dL_law_30, rfl⟩ (x := nI 15) (by decide +kernel) ?_
  refine zk_iand (hC0 Ir Jr) ⟨dL_law_32, rfl⟩ ?_
  rw [lq_and15]
  have hr : qx_n (xs i) % 16 < 16 := Nat.mod_lt _ (by decide)
  generalize qx_n (xs i) % 16 = r at hr
  match r, hr with
    | 0, _ => exact zk_tabIn (hC0 Ir Jr) dL_law_33 96 (by decide +kernel) (by decide +kernel) (off := 63) (by decide +kernel) rfl (lq_add ⟨hC0, hC1, hX, hL⟩ hi kk I J Ir Jr hS)
    | 1, _ => exact zk_tabIn (hC0 Ir Jr) dL_law_33 169 (by decide +kernel) (by decide +kernel) (off := 136) (by decide +kernel) rfl (lq_clear ⟨hC0, hC1, hX, hL⟩ hi kk I J Ir Jr hS)
    | 2, _ => exact zk_tabIn (hC0 Ir Jr) dL_law_33 192 (by decide +kernel) (by decide +kernel) (off := 159) (by decide +kernel) rfl (lq_size ⟨hC0, hC1, hX, hL⟩ hi kk I J Ir Jr hS)
    | 3, _ => exact zk_tabIn (hC0 Ir Jr) dL_law_33 215 (by decide +kernel) (by decide +kernel) (off := 182) (by decide +kernel) rfl (lq_at ⟨hC0, hC1, hX, hL⟩ hi kk I J Ir Jr hS)
    | 4, _ => exact zk_tabIn (hC0 Ir Jr) dL_law_33 248 (by decide +kernel) (by decide +kernel) (off := 215) (by decide +kernel) rfl (lq_hash ⟨hC0, hC1, hX, hL⟩ hi kk I J Ir Jr hS)
    | 5, _ => exact zk_tabIn (hC0 Ir Jr) dL_law_33 301 (by decide +kernel) (by decide +kernel) (off := 268) (by decide +kernel) rfl (lq_longHash ⟨hC0, hC1, hX, hL⟩ hi kk I J Ir Jr hS)
    | 6, _ => exact zk_tabIn (hC0 Ir Jr) dL_law_33 344 (by decide +kernel) (by decide +kernel) (off := 311) (by decide +kernel) rfl (lq_begin ⟨hC0, hC1, hX, hL⟩ hi kk I J Ir Jr hS)
    | 7, _ => exact zk_tabIn (hC0 Ir Jr) dL_law_33 455 (by decide +kernel) (by decide +kernel) (off := 422) (by decide +kernel) rfl (lq_fill ⟨hC0, hC1, hX, hL⟩ hi kk I J Ir Jr hS)
    | 8, _ => exact zk_tabIn (hC0 Ir Jr) dL_law_33 478 (by decide +kernel) (by decide +kernel) (off := 445) (by decide +kernel) rfl (lq_word ⟨hC0, hC1, hX, hL⟩ hi kk I J Ir Jr hS)
    | 9, _ => exact zk_tabIn (hC0 Ir Jr) dL_law_33 512 (by decide +kernel) (by decide +kernel) (off := 479) (by decide +kernel) rfl (lq_tag ⟨hC0, hC1, hX, hL⟩ hi kk I J Ir Jr hS)
    | 10, _ => exact zk_tabIn (hC0 Ir Jr) dL_law_33 535 (by decide +kernel) (by decide +kernel) (off := 502) (by decide +kernel) rfl (lq_told ⟨hC0, hC1, hX, hL⟩ hi kk I J Ir Jr hS)
    | 11, _ => exact zk_tabIn (hC0 Ir Jr) dL_law_33 558 (by decide +kernel) (by decide +kernel) (off := 525) (by decide +kernel) rfl (lq_seal ⟨hC0, hC1, hX, hL⟩ hi kk I J Ir Jr hS)
    | 12, _ => exact zk_tabOut (hC0 Ir Jr) dL_law_33 657 (by decide +kernel) rfl (kk I J Ir Jr hS)
    | 13, _ => exact zk_tabOut (hC0 Ir Jr) dL_law_33 657 (by decide +kernel) rfl (kk I J Ir Jr hS)
    | 14, _ => exact zk_tabOut (hC0 Ir Jr) dL_law_33 657 (by decide +kernel) rfl (kk I J Ir Jr hS)
    | 15, _ => exact zk_tabOut (hC0 Ir Jr) dL_law_33 657 (by decide +kernel) rfl (kk I J Ir Jr hS)
    | r + 16, h => exact absurd h (by omega)
set_option maxRecDepth 100000 in
theorem lq_head (hH : lq_H Y ad0 ad1 E b L xs) (hE : ∀ i, lq_At Y ad0 ad1 E b 663 i) (h1 : i ≤ L) (kk : i + 10 ≤ L → lq_At Y ad0 ad1 E b 18 (i + 10)) : lq_At Y ad0 ad1 E b 18 i := by
  intro I J Ir Jr hS
  have hH' := hH
  obtain ⟨hC0, hC1, hX, hL⟩ := hH
  have hgo : i + 10 ≤ L → zk_A 0 (lq_0 Y ad0 ad1 Ir Jr) E 27 (lq_lv b ad0 ad1 i) [] I J := by
    intro h
    refine lq_one hH' h (fun I J Ir Jr hS => ?_) I J Ir Jr hS
    refine zk_iincG (hC0 Ir Jr) ⟨dL_law_657, rfl⟩ rfl ?_
    rw [show Int32.ofInt 10 = nI 10 from by decide +kernel, nI_add]
    exact zk_goto (hC0 Ir Jr) ⟨dL_law_660, rfl⟩ 18 rfl (kk h I J Ir Jr hS)
  refine zk_iload_n (k := 3) (hC0 Ir Jr) rfl ⟨dL_law_18, rfl⟩ ?_
  refine zk_aload_n (k := 0) (hC0 Ir Jr) rfl ⟨dL_law_19, rfl⟩ ?_
  refine lq_slen (hC0 Ir Jr) hX ⟨dL_law_20, rfl⟩ ?_
  refine zk_bipush (hC0 Ir Jr) ⟨dL_law_21, rfl⟩ (x := nI 10) (by decide +kernel) ?_
  by_cases hL10 : 10 ≤ L
  · refine zk_isubN (hC0 Ir Jr) ⟨dL_law_23, rfl⟩ hL10 ?_
    exact zk_icmp_gtN (hC0 Ir Jr) ⟨dL_law_24, rfl⟩ 663 rfl (by omega) (by omega) (fun _ => hE i I J Ir Jr hS) (fun h => hgo (by omega))
  · refine zk_isub (hC0 Ir Jr) ⟨dL_law_23, rfl⟩ ?_
    exact zk_icmp_gt (hC0 Ir Jr) ⟨dL_law_24, rfl⟩ 663 rfl (fun _ => hE i I J Ir Jr hS) (fun q => absurd (Int32.lt_of_lt_of_le (lq_neg L (by omega)) (nI_pos' (by omega))) q)
/-- the loop -/
theorem lq_loop (hH : lq_H Y ad0 ad1 E b L xs) (hE : ∀ i, lq_At Y ad0 ad1 E b 663 i) : ∀ (n i : Nat), i ≤ L → L - i ≤ n → lq_At Y ad0 ad1 E b 18 i := by
  intro n
  induction n with
  | zero =>
    intro i h1 h2 I J Ir Jr hS
    exact lq_head hH hE h1 (fun h => absurd h (by omega)) I J Ir Jr hS
  | succ n ih =>
    intro i h1 h2 I J Ir Jr hS
    exact lq_head hH hE h1 (fun h => ih (i + 10) (by omega) (by omega)) I J Ir Jr hS
end LS
