/-! THE MAKING: worlds that grow; a new cell comes to the front of the list -/
def zn_AOA (ty : FieldType) (U : State) : Prop := (Cond.arrayOver (.array ty)).before #[] U = true
theorem zn_AOA.moved {ty : FieldType} {u U : State} (hvm : u.vm.Alike U.vm) (h : zn_AOA ty u) : zn_AOA ty U :=
  have h1 : (Cond.arrayOver (.array ty)).before #[] (u.setVm U.vm) = true := by rw [Cond.arrayOver_setVmC hvm]; exact h
  h1
theorem zn_AOA.use {ty : FieldType} {A : Array Value} {U : State} (h : zn_AOA ty U) : (Cond.arrayOver (.array ty)).before A U = true := h
def zn_G (X : zk_X) (U : State) : Prop := va_K X.2.2.1 zk_cl (zk_tys X) U ∧ zk_St X U ∧ (∀ w ∈ zk_nest, va_Nw w U) ∧ X.2.1 ≤ U.heap.size ∧ va_AO "SlowSeal$Bytes" U ∧ zn_AOA .long U
theorem zn_G.go {X : zk_X} {s U : State} {H : Heap} {locs : List Loc} (h : zn_G X s) (hU : U.heap = H) (hS : va_S (fun q => X.2.1 ≤ q) s.heap H locs) (hW : s.WarmedH U.vm) : zn_G X U :=
  ⟨va_K.moved hW.alike h.1, h.2.1.go hU hS hW.alike, zk_nest_warm hW h.2.2.1, Nat.le_trans h.2.2.2.1 (by rw [hU]; exact hS.1), va_AO.moved hW.alike h.2.2.2.2.1, zn_AOA.moved hW.alike h.2.2.2.2.2⟩
theorem zn_G.blind {X : zk_X} {U : State} {g : JFrame} {mk : MethodId} {a : Array Value} (h : zn_G X U) : zn_G X (U.calling g mk a) :=
  ⟨va_K.moved (u := U) (U := U.calling g mk a) (Vm.Alike.refl U.vm) h.1, h.2.1.go (U := U.calling g mk a) (locs := []) rfl va_S.rf (Vm.Alike.refl U.vm), zk_nest_same (s := U) (U := U.calling g mk a) rfl h.2.2.1, h.2.2.2.1, va_AO.moved (u := U) (U := U.calling g mk a) (Vm.Alike.refl U.vm) h.2.2.2.2.1, zn_AOA.moved (u := U) (U := U.calling g mk a) (Vm.Alike.refl U.vm) h.2.2.2.2.2⟩
theorem zn_D_iff {A : Nat → Prop} {w : va_W} : va_D A w ↔ w.Pairwise (fun p q => p.1 ≠ q.1) ∧ ∀ q ∈ w, A q.1 := by
  constructor
  · intro h
    refine ⟨List.pairwise_iff_getElem.mpr (fun i j hi hj hij e => ?_), fun q hq => ?_⟩
    · have := h.1 i j _ _ (List.getElem?_eq_getElem hi) (List.getElem?_eq_getElem hj) e
      omega
    · obtain ⟨k, hk⟩ := List.getElem?_of_mem hq
      exact h.2 k q hk
  · intro h
    refine ⟨fun i j p q hp hq e => ?_, fun k q hk => h.2 q (List.mem_of_getElem? hk)⟩
    obtain ⟨hi, rfl⟩ := List.getElem?_eq_some_iff.mp hp
    obtain ⟨hj, rfl⟩ := List.getElem?_eq_some_iff.mp hq
    rcases Nat.lt_trichotomy i j with l | l | l
    · exact absurd e (List.pairwise_iff_getElem.mp h.1 i j hi hj l)
    · exact l
    · exact absurd e.symm (List.pairwise_iff_getElem.mp h.1 j i hj hi l)
theorem zn_P_iff {D : va_G} {cl : List vw_C} {w : va_W} {H : Heap} : va_P D cl w H ↔ ∀ q ∈ w, va_at D cl q H := by
  constructor
  · intro h q hq
    obtain ⟨k, hk⟩ := List.getElem?_of_mem hq
    exact h k q hk
  · intro h k q hk
    exact h q (List.mem_of_getElem? hk)
/-- the heap holds these cells, all apart, all ours -/
def zn_W (X : zk_X) (w : va_W) (H : Heap) : Prop := va_P X.2.2.1 zk_cl w H ∧ va_D (fun q => X.2.1 ≤ q) w
theorem zn_W.perm {X : zk_X} {w w' : va_W} {H : Heap} (p : w.Perm w') (h : zn_W X w H) : zn_W X w' H := by
  refine ⟨zn_P_iff.mpr fun q hq => zn_P_iff.mp h.1 q (p.mem_iff.mpr hq), zn_D_iff.mpr ⟨?_, fun q hq => (zn_D_iff.mp h.2).2 q (p.mem_iff.mpr hq)⟩⟩
  exact (p.pairwise_iff (fun hab => Ne.symm hab)).mp (zn_D_iff.mp h.2).1
theorem zn_front {w : va_W} {x : Nat × va_E} : (w ++ [x]).Perm (x :: w) := List.perm_append_singleton x w
theorem zn_RA_find {U : State} {cA : ClassId} {ty : FieldType} (h : va_RA U cA ty) : U.vm.findClass ("[" ++ ty.toString) = some cA := by
  cases ty with
  | object C => exact h.choose_spec.choose_spec.2.2.2
  | _ => exact h
theorem zn_uniq {X : zk_X} {s : State} {cA : ClassId} {ty : FieldType} {t : Nat} (hK : va_K X.2.2.1 zk_cl (zk_tys X ++ [(cA, ty)]) s) (ht : (zk_tys X)[t]? = some (X.2.2.2.1 t, ty)) : cA = X.2.2.2.1 t := by
  have h1 := zn_RA_find (hK.2 t _ (by rw [List.getElem?_append_left (List.getElem?_eq_some_iff.mp ht).1]; exact ht)).2
  have h2 := zn_RA_find (hK.2 5 (cA, ty) rfl).2
  exact Option.some.inj (h2.symm.trans h1)
def zn_A (X : zk_X) (E : zk_E) (pc : Nat) (lv : List (Option Value)) (st : List Value) (w : va_W) (kc nc : Nat) : Prop := match E with
  | (p, e, R, s, m, args, below, meth, c, _, _, Q) => ∀ (ls : Array Slot) (H : Heap) (locs : List Loc), lv.length = c.maxLocals → lv_has ls c.maxLocals (zk_lv 0 lv) → zn_W X w H → va_S (fun q => X.2.1 ≤ q) s.heap H locs →
      W p X.1 e R s m args below meth c H locs kc nc Q (F0 m pc ls st)
def zn_C (X : zk_X) (E : zk_E) (own : String) (cc : ByteArray) (dep mx : Nat × Nat) : Prop := match E with
  | (p, _, R, s, m, args, _, _, c, _, _, _) => p.tables.exec = Jvm.exec ∧ c.code = cc ∧ s.vm.findClass own = some m.cls ∧ (∀ w ∈ zk_ws, w.before args s = true) ∧ zn_G X s ∧ dep.1 ≤ R.frames ∧ dep.2 ≤ R.locals ∧ mx.1 ≤ R.cells ∧ mx.2 ≤ R.slots
def zn_Q (X : zk_X) (B : va_W → Prop) : Array Value → State → Outcome → State → Prop := fun _ st o t => o = .returned none ∧ (∃ w, B w ∧ zn_W X w t.heap) ∧ va_F (fun q => X.2.1 ≤ q) st t
def zn_R (X : zk_X) (E : zk_E) (mx : Nat × Nat) (B : va_W → Prop) : Prop := match E with
  | (_, _, _, s, _, args, below, meth, _, _, _, Q) => Q = MQ below (zn_Q X B) args s mx.1 mx.2 (fun q => X.2.1 ≤ q) ∧ meth.sig.returnType = none ∧ meth.locks = false ∧ meth.name = "<init>"
abbrev zn_rm (d mx : Nat × Nat) : Room := { frames := d.1, cells := mx.1, slots := mx.2, locals := d.2 }
/-- THE CONTRACT of a constructor: from the world w to a world of B, with mx cells and slots at most -/
def zn_M (X : zk_X) (y : MethodName) (b : ByteArray) (maxL : Nat) (d mx : Nat × Nat) (as : List Value) (w : va_W) (B : va_W → Prop) : Prop :=
  Met X.1 y (Cond.code y b maxL none :: zk_ws) (zn_rm d mx) (va_Pc as (fun U => zn_G X U ∧ zn_W X w U.heap)) (zn_Q X B) mx.1 mx.2 (fun q => X.2.1 ≤ q)
theorem zn_M.intro {X : zk_X} {y : MethodName} {b : ByteArray} {maxL : Nat} {d mx : Nat × Nat} {as : List Value} {w : va_W} {B : va_W → Prop} (hy : plainName y.cls = true) (hyn : y.name = "<init>") {lv : List (Option Value)} (hlv : zk_en as ++ List.replicate (maxL - (zk_en as).length) none = lv) (hn : lv.length = maxL)
    (h : ∀ E, zn_C X E y.cls b d mx → zn_R X E mx B → zn_A X E 0 lv [] w 0 0) : zn_M X y b maxL d mx as w B := by
  refine Met.ofW (cc := b) (maxL := maxL) (ret := none) hy rfl ?_
  intro p e s m args below meth c s₁ B hml hv
  obtain ⟨rfl, hG, hP⟩ := hv
  have hts := atoms_spec (ws := Cond.code y b maxL none :: zk_ws) B.pre
  have hlen : (lg_sl as).length ≤ maxL := by
    rw [← zk_en_len, ← hn, ← hlv, List.length_append]; omega
  have hl := lv_entry as (n := maxL) hlen
  rw [lg_entry_eq]
  generalize (lg_sl as ++ List.replicate (maxL - (lg_sl as).length) Slot.unset).toArray = ls at hl ⊢
  refine h (p, e, _, s, m, _, below, meth, c, 0, 0, _) ⟨B.exec, B.bytes, findClass_of_methodNamed B.named, fun w hw => hts w (List.mem_cons_of_mem _ hw), hG, Nat.le_refl _, Nat.le_refl _, Nat.le_refl _, Nat.le_refl _⟩ ⟨rfl, B.returns, B.notSynchronized, ?_⟩ ls s.heap [] (by rw [hn, hml]) ⟨by rw [hl.1, hml], hl.2.1, fun q hq => hl.2.2 q (zk_en_in _ as 0 q (by rw [hlv]; exact hq))⟩ hP va_S.rf
  rw [(name_of_methodNamed B.named B.method).1, hyn]
section ZN
variable {X : zk_X} {E : zk_E} {own : String} {cc : ByteArray} {dep mx : Nat × Nat} {pc pc' kc nc : Nat} {lv : List (Option Value)} {st : List Value} {w : va_W}
theorem zn_perm {w' : va_W} (hp : w.Perm w') (kk : zn_A X E pc lv st w' kc nc) : zn_A X E pc lv st w kc nc := by
  obtain ⟨p, e, R, s, m, args, below, meth, c, cells, slots, Q⟩ := E
  intro ls H locs hn hl hP hS
  exact kk ls H locs hn hl (hP.perm hp) hS
theorem zn_cast {w' : va_W} {k' n' : Nat} (kk : zn_A X E pc lv st w' k' n') (h : w = w') (h1 : kc = k') (h2 : nc = n') : zn_A X E pc lv st w kc nc := by subst h; subst h1; subst h2; exact kk
theorem zn_iconst {z : Int} {x : Int32} (h : zn_C X E own cc dep mx) (d : zk_D cc pc pc' (.iconst z) 1) (hv : Int32.ofInt z = x) (kk : zn_A X E pc' lv (.int x :: st) w kc nc) : zn_A X E pc lv (st) w kc nc := by
  obtain ⟨p, e, R, s, m, args, below, meth, c, cells, slots, Q⟩ := E
  obtain ⟨d, rfl⟩ := d
  intro ls H locs hn hl hP hS
  exact lv_iconst h.1 h.2.1 d hv (kk ls H locs hn hl hP hS)
theorem zn_bipush {z : Int} {x : Int32} (h : zn_C X E own cc dep mx) (d : zk_D cc pc pc' (.bipush z) 2) (hv : (Int8.ofInt z).toInt32 = x) (kk : zn_A X E pc' lv (.int x :: st) w kc nc) : zn_A X E pc lv (st) w kc nc := by
  obtain ⟨p, e, R, s, m, args, below, meth, c, cells, slots, Q⟩ := E
  obtain ⟨d, rfl⟩ := d
  intro ls H locs hn hl hP hS
  exact lv_bipush h.1 h.2.1 d hv (kk ls H locs hn hl hP hS)
theorem zn_sipush {z : Int} {x : Int32} (h : zn_C X E own cc dep mx) (d : zk_D cc pc pc' (.sipush z) 3) (hv : (Int16.ofInt z).toInt32 = x) (kk : zn_A X E pc' lv (.int x :: st) w kc nc) : zn_A X E pc lv (st) w kc nc := by
  obtain ⟨p, e, R, s, m, args, below, meth, c, cells, slots, Q⟩ := E
  obtain ⟨d, rfl⟩ := d
  intro ls H locs hn hl hP hS
  exact lv_sipush h.1 h.2.1 d hv (kk ls H locs hn hl hP hS)
theorem zn_dup {a : Value} (h : zn_C X E own cc dep mx) (d : zk_D cc pc pc' (.dup) 1) (hc : a.category = 1) (kk : zn_A X E pc' lv (a :: a :: st) w kc nc) : zn_A X E pc lv (a :: st) w kc nc := by
  obtain ⟨p, e, R, s, m, args, below, meth, c, cells, slots, Q⟩ := E
  obtain ⟨d, rfl⟩ := d
  intro ls H locs hn hl hP hS
  exact lv_dup h.1 h.2.1 d hc (kk ls H locs hn hl hP hS)
theorem zn_icmp_ge {x y : Int32} {off : Int} (h : zn_C X E own cc dep mx) (d : zk_D cc pc pc' (.if_icmp .ge off) 3) (tgt : Nat) (ht : (pc : Int) + off = (tgt : Int)) (kt : y ≤ x → zn_A X E tgt lv st w kc nc) (kf : ¬ (y ≤ x) → zn_A X E pc' lv st w kc nc) : zn_A X E pc lv (.int y :: .int x :: st) w kc nc := by
  obtain ⟨p, e, R, s, m, args, below, meth, c, cells, slots, Q⟩ := E
  obtain ⟨d, rfl⟩ := d
  intro ls H locs hn hl hP hS
  exact lv_icmp_ge h.1 h.2.1 d ht (fun q => kt q ls H locs hn hl hP hS) (fun q => kf q ls H locs hn hl hP hS)
theorem zn_goto {off : Int} (h : zn_C X E own cc dep mx) (d : zk_D cc pc pc' (.goto off) 3) (tgt : Nat) (ht : (pc : Int) + off = (tgt : Int)) (kk : zn_A X E tgt lv st w kc nc) : zn_A X E pc lv st w kc nc := by
  obtain ⟨p, e, R, s, m, args, below, meth, c, cells, slots, Q⟩ := E
  obtain ⟨d, rfl⟩ := d
  intro ls H locs hn hl hP hS
  exact lv_goto h.1 h.2.1 d ht (kk ls H locs hn hl hP hS)
theorem zn_iload_n {k : Fin 4} {x : Int32} (h : zn_C X E own cc dep mx) (hl : lv[(k : Nat)]? = some (some (.int x))) (d : zk_D cc pc pc' (.iload_n k) 1) (kk : zn_A X E pc' lv (.int x :: st) w kc nc) : zn_A X E pc lv st w kc nc := by
  obtain ⟨p, e, R, s, m, args, below, meth, c, cells, slots, Q⟩ := E
  obtain ⟨d, rfl⟩ := d
  intro ls H locs hn hl2 hP hS
  exact lv_iload_n h.1 h.2.1 d rfl (zk_lv_at hl2 hl) (kk ls H locs hn hl2 hP hS)
theorem zn_aload_n {k : Fin 4} {x : Nat} (h : zn_C X E own cc dep mx) (hl : lv[(k : Nat)]? = some (some (.ref x))) (d : zk_D cc pc pc' (.aload_n k) 1) (kk : zn_A X E pc' lv (.ref x :: st) w kc nc) : zn_A X E pc lv st w kc nc := by
  obtain ⟨p, e, R, s, m, args, below, meth, c, cells, slots, Q⟩ := E
  obtain ⟨d, rfl⟩ := d
  intro ls H locs hn hl2 hP hS
  exact lv_aload_n h.1 h.2.1 d rfl (zk_lv_at hl2 hl) (kk ls H locs hn hl2 hP hS)
theorem zn_iincG {k : Nat} {n : Int} {x : Int32} (h : zn_C X E own cc dep mx) (d : zk_D cc pc pc' (.iinc k n) 3) (hx : lv[k]? = some (some (.int x))) (kk : zn_A X E pc' (lv.set k (some (.int (x + Int32.ofInt n)))) st w kc nc) : zn_A X E pc lv st w kc nc := by
  obtain ⟨p, e, R, s, m, args, below, meth, c, cells, slots, Q⟩ := E
  obtain ⟨d, rfl⟩ := d
  intro ls H locs hn hl hP hS
  have hk : k < lv.length := (List.getElem?_eq_some_iff.mp hx).1
  obtain ⟨j, hj⟩ := List.getElem?_of_mem (zk_lv_in lv 0 k _ hx)
  rw [Nat.zero_add] at hj
  refine lv_iinc h.1 h.2.1 d hl hj rfl (by rw [← hn]; exact hk) rfl (fun ls' hl' => kk ls' H locs (by rw [List.length_set]; exact hn) (zk_lv_st1 hk ?_ hl') hP hS)
  by_cases h0 : k = 0
  · exact Or.inl h0
  · right
    cases hz : lv[k - 1]? with
    | none => rfl
    | some o =>
      cases o with
      | none => rfl
      | some y =>
        have hy := zk_lv_at hl hz
        have hx2 := zk_lv_at hl hx
        by_cases hc : y.category = 2
        · have := hl.2.1.1 _ _ hy hc
          rw [show k - 1 + 1 = k by omega, hx2] at this
          cases this
        · simp [zk_n2, hc]
theorem zn_astoreNG {k : Fin 4} {x : Nat} (h : zn_C X E own cc dep mx) (d : zk_D cc pc pc' (.astore_n k) 1) (hk : (k : Nat) < lv.length) (hp : (k : Nat) = 0 ∨ zk_n2 lv[(k : Nat) - 1]? = true) (kk : zn_A X E pc' (lv.set k (some (.ref x))) st w kc nc) : zn_A X E pc lv (.ref x :: st) w kc nc := by
  obtain ⟨p, e, R, s, m, args, below, meth, c, cells, slots, Q⟩ := E
  obtain ⟨d, rfl⟩ := d
  intro ls H locs hn hl hP hS
  exact lv_astore_n h.1 h.2.1 d rfl hl (by rw [← hn]; exact hk) rfl (fun ls' hl' => kk ls' H locs (by rw [List.length_set]; exact hn) (zk_lv_st1 hk hp hl') hP hS)
theorem zn_istoreNG {k : Fin 4} {x : Int32} (h : zn_C X E own cc dep mx) (d : zk_D cc pc pc' (.istore_n k) 1) (hk : (k : Nat) < lv.length) (hp : (k : Nat) = 0 ∨ zk_n2 lv[(k : Nat) - 1]? = true) (kk : zn_A X E pc' (lv.set k (some (.int x))) st w kc nc) : zn_A X E pc lv (.int x :: st) w kc nc := by
  obtain ⟨p, e, R, s, m, args, below, meth, c, cells, slots, Q⟩ := E
  obtain ⟨d, rfl⟩ := d
  intro ls H locs hn hl hP hS
  exact lv_istore_n h.1 h.2.1 d rfl hl (by rw [← hn]; exact hk) rfl (fun ls' hl' => kk ls' H locs (by rw [List.length_set]; exact hn) (zk_lv_st1 hk hp hl') hP hS)
/-- an array of references, by another function that agrees -/
theorem zn_ext {c9 : ClassId} {n a : Nat} {f : Nat → Option Nat} (g : Nat → Option Nat) (i : Nat) (hw : w[i]? = some (a, .inl (c9, n, .inr (.inr (.inr (.inr f)))))) (hfg : ∀ j, j < n → f j = g j) (kk : zn_A X E pc lv st (w.set i (a, .inl (c9, n, .inr (.inr (.inr (.inr g)))))) kc nc) : zn_A X E pc lv st w kc nc := by
  obtain ⟨p, e, R, s, m, args, below, meth, c, cells, slots, Q⟩ := E
  intro ls H locs hn hl hP hS
  refine kk ls H locs hn hl ⟨hP.1.set hP.2 hw ?_ (fun q _ => rfl), hP.2.set hw⟩ hS
  have h1 : H[a]? = some (vp_cell c9 (n, .inr (.inr (.inr (.inr f))))) := hP.1 i _ hw
  show H[a]? = some (vp_cell c9 (n, .inr (.inr (.inr (.inr g)))))
  rw [h1, vp_cell_q, vp_cell_q]
  congr 1
  unfold arrV
  rw [show (fun j : Fin n => va_rf (f j.val)) = (fun j : Fin n => va_rf (g j.val)) from funext fun j => by rw [hfg j.1 j.2]]
theorem zn_mmax {idx : Nat} {x y : Int32} (h : zn_C X E own cc dep mx) (hd : 1 ≤ dep.1 ∧ 21 ≤ dep.2) (h1 : Cond.methodLink own idx Lib.Math.max.name ∈ zk_ws) (h2 : Cond.static Lib.Math.max.name ∈ zk_ws ∧ Cond.initialized "java/lang/Math" ∈ zk_ws ∧ Cond.code Lib.Math.max.name Lib.Math.max.code 2 (some .int) ∈ zk_ws) (hcat : (st.map fun v => v.category).sum ≤ 8) (hk : kc ≤ mx.1) (hn : nc ≤ mx.2) (d : zk_D cc pc pc' (.invokestatic idx) 3) (kk : zn_A X E pc' lv (.int (if x < y then y else x) :: st) w kc nc) : zn_A X E pc lv (.int y :: .int x :: st) w kc nc := by
  obtain ⟨p, e, R, s, m, args, below, meth, c, cells, slots, Q⟩ := E
  obtain ⟨d, rfl⟩ := d
  obtain ⟨c1, c2, c3, c4, c5, c6, c7, c8, c9⟩ := h
  intro ls H locs hn' hl hP hS
  exact va_mmax c1 c2 hl.1.symm c3 (c4 _ h1) (c4 _ h2.1) (c4 _ h2.2.1) (c4 _ h2.2.2) (by omega) (by omega) (by omega) (by omega) d (kk ls H locs hn' hl hP hS)
theorem zn_obj {idx x : Nat} (h : zn_C X E own cc dep mx) (hd : 1 ≤ dep.1 ∧ 20 ≤ dep.2) (h1 : Cond.methodLink own idx Lib.objectInit ∈ zk_ws) (h2 : Cond.instanceMethod Lib.objectInit ∈ zk_ws ∧ Cond.code Lib.objectInit ⟨#[0xb1]⟩ 1 none ∈ zk_ws) (hcat : (st.map fun v => v.category).sum ≤ 8) (d : zk_D cc pc pc' (.invokespecial idx) 3) (kk : zn_A X E pc' lv st w kc nc) : zn_A X E pc lv (.ref x :: st) w kc nc := by
  obtain ⟨p, e, R, s, m, args, below, meth, c, cells, slots, Q⟩ := E
  obtain ⟨d, rfl⟩ := d
  obtain ⟨c1, c2, c3, c4, c5, c6, c7, c8, c9⟩ := h
  intro ls H locs hn' hl hP hS
  have hr : 2 * (F0 m pc ls (.ref x :: st)).monitorRoom + (st.map fun v => v.category).sum ≤ 8 := lv_room hcat
  exact W.objInit c1 c2 c3 (c4 _ h1) (c4 _ h2.1) (c4 _ h2.2) (g := F0 m pc ls (.ref x :: st)) rfl hl.1 rfl d (by omega) (by omega) (kk ls H locs hn' hl hP hS)
theorem zn_vret {B : va_W → Prop} (h : zn_C X E own cc dep mx) (hq : zn_R X E mx B) (hB : B w) (hk : kc ≤ mx.1) (hn : nc ≤ mx.2) (d : zk_D cc pc pc' .return_ 1) : zn_A X E pc lv [] w kc nc := by
  obtain ⟨p, e, R, s, m, args, below, meth, c, cells, slots, Q⟩ := E
  obtain ⟨rfl, hrt, hlk, -⟩ := hq
  intro ls H locs hn' hl hP hS
  exact W.widen hk hn (W.vret h.1 h.2.1 hrt (fun t ht hW => ⟨rfl, ⟨w, hB, by rw [ht]; exact hP⟩, hS.F ht⟩) hS.2.2 d.1 hlk)
theorem zn_newa {atype : ArrayType} {ty : FieldType} {a0 : vp_A} {N t : Nat} {z : Int32} (h : zn_C X E own cc dep mx) (hty : newarray.typeOf atype = ty) (hac : Cond.arrayClass (newarray.typeOf atype) ∈ zk_ws) (ht : (zk_tys X)[t]? = some (X.2.2.2.1 t, ty)) (ha : ∀ cA : ClassId, vp_cell cA a0 = arrV cA N (fun _ => defaultValue ty)) (hz : ¬ z < 0) (hN : z.toNatClampNeg = N) (hb : N * componentBytes ty ≤ 536870912) (hk : kc + 1 ≤ mx.1) (hn : nc + N ≤ mx.2) (d : zk_D cc pc pc' (.newarray atype) 2)
    (kk : ∀ q : Nat, zn_A X E pc' lv (.ref q :: st) ((q, .inl (X.2.2.2.1 t, a0)) :: w) (kc + 1) (nc + N)) : zn_A X E pc lv (.int z :: st) w kc nc := by
  obtain ⟨p, e, R, s, m, args, below, meth, c, cells, slots, Q⟩ := E
  obtain ⟨d, rfl⟩ := d
  obtain ⟨c1, c2, c3, c4, c5, c6, c7, c8, c9⟩ := h
  intro ls H locs hn' hl hP hS
  refine va_newa c1 c2 (c4 _ hac) hty c5.1 hP.1 hP.2 hS (fun q hq => Nat.le_trans c5.2.2.2.1 hq) ha hz hN hb (by omega) (by omega) d ?_
  intro q cA H1 hK1 hP1 hD1 hS1
  obtain rfl := zn_uniq hK1 ht
  exact kk q ls H1 locs hn' hl (zn_W.perm zn_front ⟨hP1, hD1⟩) hS1
theorem zn_newq {C : String} {idx N t : Nat} {z : Int32} (h : zn_C X E own cc dep mx) (hcl : Cond.classLink own idx C ∈ zk_ws) (hC : C = "SlowSeal$Bytes") (ht : (zk_tys X)[t]? = some (X.2.2.2.1 t, .object C)) (hz : ¬ z < 0) (hN : z.toNatClampNeg = N) (hb : N * 4 ≤ 536870912) (hk : kc + 1 ≤ mx.1) (hn : nc + N ≤ mx.2) (d : zk_D cc pc pc' (.anewarray idx) 3)
    (kk : ∀ q : Nat, zn_A X E pc' lv (.ref q :: st) ((q, .inl (X.2.2.2.1 t, N, .inr (.inr (.inr (.inr (fun _ => none)))))) :: w) (kc + 1) (nc + N)) : zn_A X E pc lv (.int z :: st) w kc nc := by
  obtain ⟨p, e, R, s, m, args, below, meth, c, cells, slots, Q⟩ := E
  obtain ⟨d, rfl⟩ := d
  obtain ⟨c1, c2, c3, c4, c5, c6, c7, c8, c9⟩ := h
  subst hC
  intro ls H locs hn' hl hP hS
  refine va_newq c1 c2 c3 (c4 _ hcl) c5.2.2.2.2.1 c5.1 hP.1 hP.2 hS (fun q hq => Nat.le_trans c5.2.2.2.1 hq) hz hN hb (by omega) (by omega) d ?_
  intro q cA H1 hK1 hP1 hD1 hS1
  obtain rfl := zn_uniq hK1 ht
  exact kk q ls H1 locs hn' hl (zn_W.perm zn_front ⟨hP1, hD1⟩) hS1
theorem zn_new {C : String} {T : u_T} {ty0 : Nat → FieldType} {ci idx N : Nat} {fs : List Value} (h : zn_C X E own cc dep mx) (hc : zk_cl[ci]? = some (C, T, N)) (hu : ∀ w ∈ u_ws C T N, w ∈ zk_ws) (hty : ∀ k, k < N → parseFieldDescriptor (T k).2.2.1 = some (ty0 k)) (hw : Cond.classLink own idx C ∈ zk_ws ∧ Cond.instantiable C N ∈ zk_ws ∧ Cond.initialized C ∈ zk_ws) (hfs : ∀ j, j < N → defaultValue (ty0 j) = vp_V fs j) (hk : kc + 1 ≤ mx.1) (hn : nc + N ≤ mx.2) (d : zk_D cc pc pc' (.new idx) 3)
    (kk : ∀ q : Nat, zn_A X E pc' lv (.ref q :: st) ((q, .inr (ci, fs)) :: w) (kc + 1) (nc + N)) : zn_A X E pc lv st w kc nc := by
  obtain ⟨p, e, R, s, m, args, below, meth, c, cells, slots, Q⟩ := E
  obtain ⟨d, rfl⟩ := d
  obtain ⟨c1, c2, c3, c4, c5, c6, c7, c8, c9⟩ := h
  intro ls H locs hn' hl hP hS
  refine va_new c1 c2 c4 hu ty0 hty c3 (c4 _ hw.1) (c4 _ hw.2.1) (c4 _ hw.2.2) c5.1 hP.1 hP.2 hS (fun q hq => Nat.le_trans c5.2.2.2.1 hq) hc hfs (by omega) (by omega) d ?_
  intro q H1 hP1 hD1 hS1
  exact kk q ls H1 locs hn' hl (zn_W.perm zn_front ⟨hP1, hD1⟩) hS1
theorem zn_put {B : va_W → Prop} {C : String} {T : u_T} {ty0 : Nat → FieldType} {ty : FieldType} {ci j idx N a x : Nat} (i : Nat) {fs : List Value} (h : zn_C X E own cc dep mx) (hq : zn_R X E mx B) (hc : zk_cl[ci]? = some (C, T, N)) (hu : ∀ w ∈ u_ws C T N, w ∈ zk_ws) (hp : (∀ k, k < N → parseFieldDescriptor (T k).2.2.1 = some (ty0 k)) ∧ (∀ a, a < N → ∀ b, b < N → a ≠ b → (T a).2.1 ≠ (T b).2.1)) (hj : j < N) (hlk : Cond.fieldLink own idx C (T j).2.1 (T j).2.2.1 ∈ zk_ws) (hT : (T j).1 = C) (hfin : (T j).2.2.2 = true) (hown : C = own) (hw : w[i]? = some (a, .inr (ci, fs))) (hd : parseFieldDescriptor (T j).2.2.1 = some ty) (hnr : narrow ty (.ref x) = .ref x) (hft : fits ty (.ref x) = true) (hl : j < fs.length) (d : zk_D cc pc pc' (.putfield idx) 3)
    (kk : zn_A X E pc' lv st (w.set i (a, .inr (ci, fs.set j (.ref x)))) kc nc) : zn_A X E pc lv (.ref x :: .ref a :: st) w kc nc := by
  obtain ⟨p, e, R, s, m, args, below, meth, c, cells, slots, Q⟩ := E
  obtain ⟨d, rfl⟩ := d
  obtain ⟨c1, c2, c3, c4, c5, c6, c7, c8, c9⟩ := h
  obtain ⟨-, -, -, hnm⟩ := hq
  intro ls H locs hn' hll hP hS
  refine va_putF c1 c2 c4 hu ty0 hp.1 hp.2 c3 c5.1 hP.1 hP.2 hS i hw hc j hj (c4 _ hlk) (fun x hx => by rw [hT] at hx; exact hx) hfin hnm (hT.trans hown) hd hnr hft hl d ?_
  intro H1 locs1 hP1 hD1 hS1
  exact kk ls H1 locs1 hn' hll ⟨hP1, hD1⟩ hS1
theorem zn_get {C : String} {T : u_T} {ci j idx N a : Nat} {x : Value} (i : Nat) {fs : List Value} (h : zn_C X E own cc dep mx) (hc : zk_cl[ci]? = some (C, T, N)) (hu : ∀ w ∈ u_ws C T N, w ∈ zk_ws) (hj : j < N) (hlk : Cond.fieldLink own idx C (T j).2.1 (T j).2.2.1 ∈ zk_ws) (hT : (T j).1 = C) (hw : w[i]? = some (a, .inr (ci, fs))) (hx : fs[j]? = some x) (d : zk_D cc pc pc' (.getfield idx) 3)
    (kk : zn_A X E pc' lv (x :: st) w kc nc) : zn_A X E pc lv (.ref a :: st) w kc nc := by
  obtain ⟨p, e, R, s, m, args, below, meth, c, cells, slots, Q⟩ := E
  obtain ⟨d, rfl⟩ := d
  obtain ⟨c1, c2, c3, c4, c5, c6, c7, c8, c9⟩ := h
  intro ls H locs hn' hll hP hS
  exact va_get c1 c2 c4 hu c3 c5.1 hP.1 i hw hc j hj (c4 _ hlk) (fun x hx => by rw [hT] at hx; exact hx) hx d (kk ls H locs hn' hll hP hS)
theorem zn_ast {t ci a v n : Nat} {r : vw_C} {vs : List Value} {f : Nat → Option Nat} {z : Int32} (i iv : Nat) (h : zn_C X E own cc dep mx) (hw : w[i]? = some (a, .inl (X.2.2.2.1 t, n, .inr (.inr (.inr (.inr f)))))) (ht : (zk_tys X)[t]? = some (X.2.2.2.1 t, .object r.1)) (hv : w[iv]? = some (v, .inr (ci, vs))) (hc : zk_cl[ci]? = some r) (hin : vp_in z n) (d : zk_D cc pc pc' .aastore 1)
    (kk : zn_A X E pc' lv st (w.set i (a, .inl (X.2.2.2.1 t, n, .inr (.inr (.inr (.inr (va_up f z.toNatClampNeg (some v)))))))) kc nc) : zn_A X E pc lv (.ref v :: .int z :: .ref a :: st) w kc nc := by
  obtain ⟨p, e, R, s, m, args, below, meth, c, cells, slots, Q⟩ := E
  obtain ⟨d, rfl⟩ := d
  obtain ⟨c1, c2, c3, c4, c5, c6, c7, c8, c9⟩ := h
  intro ls H locs hn' hll hP hS
  refine va_astq c1 c2 c5.1 hP.1 hP.2 hS i t iv ci hw ht hv hc hin d ?_
  intro H1 locs1 hP1 hD1 hS1
  exact kk ls H1 locs1 hn' hll ⟨hP1, hD1⟩ hS1
theorem zn_run {B : va_W → Prop} {a : Array Value} {p : Program} {e : Env} {R : Room} {s : State} {m : MethodId} {args : Array Value} {below : List Frame} {meth : Method} {c : Code} {cells slots mc ms : Nat} {Q : State → Prop} {ls : Array Slot} {H : Heap} {locs : List Loc} {st0 rest : List Value}
    (hr : va_Run p X.1 e R s m args below meth c H locs cells slots mc ms (F0 m pc ls st0) rest (zn_Q X B a) (fun q => X.2.1 ≤ q)) (hS : va_S (fun q => X.2.1 ≤ q) s.heap H locs)
    (kk : ∀ (w' : va_W) (H1 : Heap) (locs1 : List Loc), B w' → zn_W X w' H1 → va_S (fun q => X.2.1 ≤ q) s.heap H1 locs1 → W p X.1 e R s m args below meth c H1 locs1 (cells + mc) (slots + ms) Q (F0 m (pc + 3) ls rest)) : W p X.1 e R s m args below meth c H locs cells slots Q (F0 m pc ls st0) := by
  intro T hT Y
  obtain ⟨x, st₀, t, T', L, h0, X', hL, e1, e2, ⟨hv, ⟨w', hB, hP⟩, hz, hk⟩, go⟩ := hr T hT Y
  cases hv
  rw [h0] at hz hk
  obtain ⟨t2, a1, b1⟩ := kk w' T'.heap (locs ++ L) hB (by rw [e1]; exact hP) ⟨Nat.le_trans hS.1 (by rw [e1]; exact hz), fun q h1 h2 => by rw [e1, hk q (Nat.lt_of_lt_of_le h1 hS.1) h2]; exact hS.2.1 q h1 h2, fun q hq => by
      rcases List.mem_append.mp hq with h | h
      · exact hS.2.2 q h
      · exact hL q h⟩ T' rfl X'
  exact ⟨t2, go t2 a1, b1⟩
abbrev zn_mi (y : MethodName) (b : ByteArray) (maxL nn : Nat) : Prop := y.name = "<init>" ∧ Cond.instanceMethod y ∈ zk_ws ∧ Cond.initialized y.cls ∈ zk_ws ∧ Cond.code y b maxL none ∈ zk_ws ∧ (y.cls ≠ "java/lang/invoke/MethodHandle" ∧ y.cls ≠ "java/lang/invoke/VarHandle" ∧ (parseMethodDescriptor y.desc).map (fun d => d.parameters.length) = some nn)
theorem zn_call {idx nn maxL a : Nat} {dy my : Nat × Nat} {y : MethodName} {b : ByteArray} {as rest : List Value} {B : va_W → Prop} (h : zn_C X E own cc dep mx) (hl : zk_ml own idx y) (hi : zn_mi y b maxL nn) (hM : zn_M X y b maxL dy my (.ref a :: as) w B) (hd : dy.1 + 1 ≤ dep.1 ∧ 8 + (maxL + 11) + dy.2 ≤ dep.2) (hn : as.length = nn) (hst : st = as.reverse ++ .ref a :: rest) (hcat : (rest.map fun v => v.category).sum ≤ 8) (hk : kc + my.1 ≤ mx.1) (hs : nc + my.2 ≤ mx.2) (d : zk_D cc pc pc' (.invokespecial idx) 3)
    (kk : ∀ w', B w' → zn_A X E pc' lv rest w' (kc + my.1) (nc + my.2)) : zn_A X E pc lv st w kc nc := by
  obtain ⟨p, e, R, s, m, args, below, meth, c, cells, slots, Q⟩ := E
  obtain ⟨d, rfl⟩ := d
  subst hst
  obtain ⟨i0, i1, i3, i4, i5⟩ := hi
  obtain ⟨c1, c2, c3, c4, c5, c6, c7, c8, c9⟩ := h
  intro ls H locs hnl hll hP hS
  have hR : (zn_rm dy my).frames + 1 ≤ R.frames ∧ 8 + (maxL + 11) + (zn_rm dy my).locals ≤ R.locals := by
    exact ⟨Nat.le_trans hd.1 c6, Nat.le_trans hd.2 c7⟩
  have hp : PreS s H (va_Pc (.ref a :: as) (fun U => zn_G X U ∧ zn_W X w U.heap)) (.ref a :: as) :=
    ⟨fun a U g mk q => ⟨q.1, q.2.1.blind, q.2.2⟩, fun U hU hW => ⟨rfl, c5.go hU hS hW, by rw [hU]; exact hP⟩⟩
  rcases hl with hl | hl
  · refine zn_run (va_runI (cc := cc) (nL := c.maxLocals) (Ts := zk_ws) ⟨c1, c2, rfl, c3, c4⟩ hM ⟨callB_of nn c4 (zk_goodIn i4) rfl rfl rfl (c4 _ i3) (c4 _ hl) i5 hR, i0, c4 _ i1⟩ hp rfl hn hll.1 rfl (lv_room hcat) d ⟨by omega, by omega⟩) hS (fun w' H1 locs1 hB hP1 hS1 => kk w' hB ls H1 locs1 hnl hll hP1 hS1)
  · refine zn_run (va_runIN (cc := cc) (nL := c.maxLocals) (Ts := zk_ws) ⟨c1, c2, rfl, c3, c4⟩ hM ⟨va_cnB nn c4 (zk_goodIn i4) rfl rfl rfl (c5.2.2.1 _ hl) (c4 _ i3) i5 hR, i0, c4 _ i1⟩ hp rfl hn hll.1 rfl (lv_room hcat) d ⟨by omega, by omega⟩) hS (fun w' H1 locs1 hB hP1 hS1 => kk w' hB ls H1 locs1 hnl hll hP1 hS1)
end ZN
