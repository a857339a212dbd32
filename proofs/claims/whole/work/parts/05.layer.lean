/-! THE LAYER: a world of fixed shape. Its ints and its longs are two functions I, J of place and slot; its references never change. -/
abbrev zk_I : Type := Nat → Nat → Int32
abbrev zk_J : Type := Nat → Nat → Int64
/-- a cell's shape: an array of ints (0), bytes (1), longs (2) of a length; an object of a class with its fields (a place, or an int); an array of references to places in a row -/
abbrev zk_S : Type := (Nat × Nat) ⊕ ((Nat × List (Option Nat)) ⊕ (Nat × Nat × Nat))
/-- launch, lowest address of ours, the classes' numbers, the array classes, addresses of the places, addresses of the static arrays, other cells -/
abbrev zk_X : Type := Launch × Nat × va_G × (Nat → ClassId) × (Nat → Nat) × (Nat → Nat) × va_W
def zk_ad (X : zk_X) : Nat → Nat := X.2.2.2.2.1
def zk_sa (X : zk_X) : Nat → Nat := X.2.2.2.2.2.1
abbrev zk_tys (X : zk_X) : List (ClassId × FieldType) := [(X.2.2.2.1 0, .int), (X.2.2.2.1 1, .byte), (X.2.2.2.1 2, .long), (X.2.2.2.1 3, zk_ty3), (X.2.2.2.1 4, zk_ty4)]
def zk_fv (X : zk_X) (I : zk_I) (k : Nat) : Nat → List (Option Nat) → List Value
  | _, [] => []
  | j, some p :: r => .ref (zk_ad X p) :: zk_fv X I k (j + 1) r
  | j, none :: r => .int (I k j) :: zk_fv X I k (j + 1) r
def zk_e (X : zk_X) (I : zk_I) (J : zk_J) (k : Nat) (x : zk_S) : va_E := match x with
  | .inl (0, n) => .inl (X.2.2.2.1 0, n, .inl (I k))
  | .inl (1, n) => .inl (X.2.2.2.1 1, n, .inl (I k))
  | .inl (_ + 2, n) => .inl (X.2.2.2.1 2, n, .inr (.inl (J k)))
  | .inr (.inl (ci, fs)) => .inr (ci, zk_fv X I k 0 fs)
  | .inr (.inr (t, n, p0)) => .inl (X.2.2.2.1 t, n, .inr (.inr (.inr (.inr fun i => some (zk_ad X (p0 + i))))))
def zk_w (v : Nat) (X : zk_X) (I : zk_I) (J : zk_J) : va_W := (List.range (zk_N v)).map (fun k => (zk_ad X k, zk_e X I J k (zk_sh v k))) ++ X.2.2.2.2.2.2
theorem zk_w_get {v : Nat} {X : zk_X} {I : zk_I} {J : zk_J} {k : Nat} (hk : k < zk_N v) : (zk_w v X I J)[k]? = some (zk_ad X k, zk_e X I J k (zk_sh v k)) := by
  unfold zk_w
  rw [List.getElem?_append_left (by simpa using hk)]
  simp [hk]
/-- a row of I, of J is another one -/
def zk_u {α : Type} (I : Nat → Nat → α) (k : Nat) (g : Nat → α) : Nat → Nat → α := fun a => if a = k then g else I a
theorem zk_u_s {α : Type} {I : Nat → Nat → α} {k : Nat} {g : Nat → α} : zk_u I k g k = g := if_pos rfl
theorem zk_u_n {α : Type} {I : Nat → Nat → α} {k a : Nat} {g : Nat → α} (h : a ≠ k) : zk_u I k g a = I a := if_neg h
theorem zk_fv_ext {X : zk_X} {I I' : zk_I} {k : Nat} (h : I' k = I k) : ∀ (fs : List (Option Nat)) (j : Nat), zk_fv X I' k j fs = zk_fv X I k j fs
  | [], _ => rfl
  | some p :: r, j => by rw [zk_fv, zk_fv, zk_fv_ext h r]
  | none :: r, j => by rw [zk_fv, zk_fv, zk_fv_ext h r, h]
theorem zk_e_ext {X : zk_X} {I I' : zk_I} {J J' : zk_J} {k : Nat} (h : I' k = I k) (h2 : J' k = J k) (x : zk_S) : zk_e X I' J' k x = zk_e X I J k x := by
  rcases x with ⟨t, n⟩ | ⟨ci, fs⟩ | ⟨t, n, p0⟩
  · match t with
    | 0 => simp only [zk_e, h]
    | 1 => simp only [zk_e, h]
    | t + 2 => simp only [zk_e, h2]
  · simp only [zk_e, zk_fv_ext h]
  · rfl
theorem zk_w_set {v : Nat} {X : zk_X} {I I' : zk_I} {J J' : zk_J} {k : Nat} (hk : k < zk_N v) (h : ∀ a, a ≠ k → I' a = I a) (h2 : ∀ a, a ≠ k → J' a = J a) {x : zk_S} (hx : zk_sh v k = x) : (zk_w v X I J).set k (zk_ad X k, zk_e X I' J' k x) = zk_w v X I' J' := by
  subst hx
  unfold zk_w
  rw [List.set_append_left _ _ (by simpa using hk)]
  congr 1
  apply List.ext_getElem?
  intro i
  by_cases hi : i = k
  · subst hi
    simp [hk]
  · rw [List.getElem?_set_ne (Ne.symm hi)]
    by_cases hl : i < zk_N v
    · simp [hl, zk_e_ext (h i hi) (h2 i hi)]
    · simp [hl]
theorem zk_fv_len {X : zk_X} {I : zk_I} {k : Nat} : ∀ (fs : List (Option Nat)) (i : Nat), (zk_fv X I k i fs).length = fs.length
  | [], _ => rfl
  | some _ :: r, i => by rw [zk_fv, List.length_cons, List.length_cons, zk_fv_len r]
  | none :: r, i => by rw [zk_fv, List.length_cons, List.length_cons, zk_fv_len r]
theorem zk_fv_i {X : zk_X} {I : zk_I} {k : Nat} : ∀ (fs : List (Option Nat)) (i j : Nat), fs[j]? = some none → (zk_fv X I k i fs)[j]? = some (.int (I k (i + j)))
  | [], _, _, h => by simp at h
  | some p :: r, i, 0, h => by simp at h
  | none :: r, i, 0, h => rfl
  | some p :: r, i, j + 1, h => by rw [zk_fv, List.getElem?_cons_succ, zk_fv_i r (i + 1) j (by simpa using h), show i + 1 + j = i + (j + 1) by omega]
  | none :: r, i, j + 1, h => by rw [zk_fv, List.getElem?_cons_succ, zk_fv_i r (i + 1) j (by simpa using h), show i + 1 + j = i + (j + 1) by omega]
theorem zk_fv_r {X : zk_X} {I : zk_I} {k p : Nat} : ∀ (fs : List (Option Nat)) (i j : Nat), fs[j]? = some (some p) → (zk_fv X I k i fs)[j]? = some (.ref (zk_ad X p))
  | [], _, _, h => by simp at h
  | some q :: r, i, 0, h => by simp at h; subst h; rfl
  | none :: r, i, 0, h => by simp at h
  | some q :: r, i, j + 1, h => by rw [zk_fv, List.getElem?_cons_succ, zk_fv_r r (i + 1) j (by simpa using h)]
  | none :: r, i, j + 1, h => by rw [zk_fv, List.getElem?_cons_succ, zk_fv_r r (i + 1) j (by simpa using h)]
theorem zk_fv_far {X : zk_X} {I : zk_I} {k : Nat} {a : Nat} {x : Int32} : ∀ (fs : List (Option Nat)) (i : Nat), a < i → zk_fv X (zk_u I k (upd (I k) a x)) k i fs = zk_fv X I k i fs
  | [], _, _ => rfl
  | some q :: r, i, h => by rw [zk_fv, zk_fv, zk_fv_far r (i + 1) (by omega)]
  | none :: r, i, h => by rw [zk_fv, zk_fv, zk_fv_far r (i + 1) (by omega), zk_u_s, pk_un (by omega)]
theorem zk_fv_set {X : zk_X} {I : zk_I} {k : Nat} {x : Int32} : ∀ (fs : List (Option Nat)) (i j : Nat), fs[j]? = some none → (zk_fv X I k i fs).set j (.int x) = zk_fv X (zk_u I k (upd (I k) (i + j) x)) k i fs
  | [], _, _, h => by simp at h
  | some q :: r, i, 0, h => by simp at h
  | none :: r, i, 0, h => by rw [zk_fv, zk_fv, List.set_cons_zero, zk_u_s, show upd (I k) (i + 0) x i = x from pk_us (k := i), zk_fv_far r (i + 1) (by omega)]
  | some q :: r, i, j + 1, h => by rw [zk_fv, zk_fv, List.set_cons_succ, zk_fv_set r (i + 1) j (by simpa using h), show i + 1 + j = i + (j + 1) by omega]
  | none :: r, i, j + 1, h => by rw [zk_fv, zk_fv, List.set_cons_succ, zk_fv_set r (i + 1) j (by simpa using h), show i + 1 + j = i + (j + 1) by omega, zk_u_s, pk_un (by omega)]
/-- locals by their places -/
def zk_lv : Nat → List (Option Value) → List (Nat × Value)
  | _, [] => []
  | i, none :: r => zk_lv (i + 1) r
  | i, some x :: r => (i, x) :: zk_lv (i + 1) r
theorem zk_lv_of : ∀ (l : List (Option Value)) (i : Nat) (q : Nat × Value), q ∈ zk_lv i l → ∃ j, q.1 = i + j ∧ l[j]? = some (some q.2)
  | [], _, _, h => by simp [zk_lv] at h
  | none :: r, i, q, h => by
    obtain ⟨j, h1, h2⟩ := zk_lv_of r (i + 1) q h
    exact ⟨j + 1, by omega, by simpa using h2⟩
  | some x :: r, i, q, h => by
    rcases List.mem_cons.mp h with rfl | h
    · exact ⟨0, rfl, rfl⟩
    · obtain ⟨j, h1, h2⟩ := zk_lv_of r (i + 1) q h
      exact ⟨j + 1, by omega, by simpa using h2⟩
theorem zk_lv_in : ∀ (l : List (Option Value)) (i j : Nat) (x : Value), l[j]? = some (some x) → (i + j, x) ∈ zk_lv i l
  | [], _, _, _, h => by simp at h
  | none :: r, i, 0, x, h => by simp at h
  | some y :: r, i, 0, x, h => by simp at h; subst h; simp [zk_lv]
  | none :: r, i, j + 1, x, h => by
    have := zk_lv_in r (i + 1) j x (by simpa using h)
    rw [show i + 1 + j = i + (j + 1) by omega] at this
    exact this
  | some y :: r, i, j + 1, x, h => by
    have := zk_lv_in r (i + 1) j x (by simpa using h)
    rw [show i + 1 + j = i + (j + 1) by omega] at this
    exact List.mem_cons_of_mem _ this
theorem zk_lv_at {ls : Array Slot} {n : Nat} {lv : List (Option Value)} (h : lv_has ls n (zk_lv 0 lv)) {j : Nat} {x : Value} (hj : lv[j]? = some (some x)) : ls[j]? = some (.val x) := by
  have := h.2.2 (0 + j, x) (zk_lv_in lv 0 j x hj)
  rwa [Nat.zero_add] at this
/-- no long stands there -/
def zk_n2 (o : Option (Option Value)) : Bool := match o with
  | some (some x) => x.category != 2
  | _ => true
theorem zk_lv_st1 {ls' : Array Slot} {n k : Nat} {x : Value} {lv : List (Option Value)} (hk : k < lv.length) (hp : k = 0 ∨ zk_n2 lv[k - 1]? = true)
    (h : lv_has ls' n ((k, x) :: (zk_lv 0 lv).filter (fun q => !(q.1 == k) && !(q.1 + 1 == k && q.2.category == 2)))) : lv_has ls' n (zk_lv 0 (lv.set k (some x))) := by
  refine ⟨h.1, h.2.1, fun q hq => h.2.2 q ?_⟩
  obtain ⟨j, h1, h2⟩ := zk_lv_of _ _ _ hq
  rw [Nat.zero_add] at h1
  by_cases hj : j = k
  · subst hj
    rw [List.getElem?_set_self hk] at h2
    simp at h2
    rw [show q = (j, x) by rw [h2, ← h1]]
    exact List.mem_cons_self
  · rw [List.getElem?_set_ne (Ne.symm hj)] at h2
    refine List.mem_cons_of_mem _ (List.mem_filter.mpr ⟨?_, ?_⟩)
    · have := zk_lv_in lv 0 j q.2 h2
      rw [Nat.zero_add, ← h1] at this
      exact this
    · have hj' : ¬ q.1 = k := by omega
      simp only [Bool.and_eq_true, Bool.not_eq_true', beq_eq_false_iff_ne, ne_eq, Bool.and_eq_false_iff]
      refine ⟨hj', ?_⟩
      by_cases hq1 : q.1 + 1 = k
      · right
        rcases hp with hp | hp
        · omega
        · rw [show k - 1 = j by omega, h2] at hp
          simpa [zk_n2] using hp
      · left; exact hq1
theorem zk_lv_st2 {ls' : Array Slot} {n k : Nat} {x : Value} {lv : List (Option Value)} (hk : k + 1 < lv.length) (hp : k = 0 ∨ zk_n2 lv[k - 1]? = true)
    (h : lv_has ls' n ((k, x) :: (zk_lv 0 lv).filter (fun q => !(q.1 == k) && (!(q.1 == k + 1) && !(q.1 + 1 == k && q.2.category == 2))))) : lv_has ls' n (zk_lv 0 ((lv.set k (some x)).set (k + 1) none)) := by
  refine ⟨h.1, h.2.1, fun q hq => h.2.2 q ?_⟩
  obtain ⟨j, h1, h2⟩ := zk_lv_of _ _ _ hq
  rw [Nat.zero_add] at h1
  by_cases hj1 : j = k + 1
  · subst hj1
    rw [List.getElem?_set_self (by simpa using hk)] at h2
    simp at h2
  rw [List.getElem?_set_ne (Ne.symm hj1)] at h2
  by_cases hj : j = k
  · subst hj
    rw [List.getElem?_set_self (by omega)] at h2
    simp at h2
    rw [show q = (j, x) by rw [h2, ← h1]]
    exact List.mem_cons_self
  · rw [List.getElem?_set_ne (Ne.symm hj)] at h2
    refine List.mem_cons_of_mem _ (List.mem_filter.mpr ⟨?_, ?_⟩)
    · have := zk_lv_in lv 0 j q.2 h2
      rw [Nat.zero_add, ← h1] at this
      exact this
    · have hj' : ¬ q.1 = k := by omega
      have hj2 : ¬ q.1 = k + 1 := by omega
      simp only [Bool.and_eq_true, Bool.not_eq_true', beq_eq_false_iff_ne, ne_eq, Bool.and_eq_false_iff]
      refine ⟨hj', hj2, ?_⟩
      by_cases hq1 : q.1 + 1 = k
      · right
        rcases hp with hp | hp
        · omega
        · rw [show k - 1 = j by omega, h2] at hp
          simpa [zk_n2] using hp
      · left; exact hq1
def zk_en : List Value → List (Option Value)
  | [] => []
  | .long x :: r => some (.long x) :: none :: zk_en r
  | .double x :: r => some (.double x) :: none :: zk_en r
  | x :: r => some x :: zk_en r
theorem zk_en_in (n : Nat) : ∀ (vs : List Value) (i : Nat) (q : Nat × Value), q ∈ zk_lv i (zk_en vs ++ List.replicate n none) → q ∈ lv_args i vs
  | [], i, q, h => by
    obtain ⟨j, -, h2⟩ := zk_lv_of _ _ _ h
    have h2 : (List.replicate n (none : Option Value))[j]? = some (some q.2) := h2
    rw [List.getElem?_replicate] at h2
    split at h2 <;> simp at h2
  | x :: r, i, q, h => by
    cases x <;> (simp only [zk_en, List.cons_append, zk_lv] at h; rcases List.mem_cons.mp h with rfl | h) <;> first
      | exact List.mem_cons_self
      | exact List.mem_cons_of_mem _ (zk_en_in n r _ q h)
theorem zk_en_len : ∀ vs : List Value, (zk_en vs).length = (lg_sl vs).length
  | [] => rfl
  | x :: r => by
    have := zk_en_len r
    cases x <;> simp_all [zk_en, lg_sl, Value.category] <;> omega
def zk_good (w : Cond) : Bool := (w.onTables && w.keeps) || (match w with | .arrayClass _ => true | _ => false)
def zk_ws : List Cond := lw_tbl.filter zk_good
def zk_isNest (w : Cond) : Bool := match w with
  | .fieldLinkNest .. => true
  | .methodLinkNest .. => true
  | _ => false
def zk_nest : List Cond := lw_tbl.filter zk_isNest
theorem zk_goodIn {y : MethodName} {b : ByteArray} {n : Nat} {r : Option FieldType} (h : Cond.code y b n r ∈ zk_ws) : GoodIn zk_ws (Cond.code y b n r :: zk_ws) := by
  have key : ∀ w ∈ zk_ws, w ∈ zk_ws ∧ ((w.onTables && w.keeps) = true ∨ ∃ ty, w = .arrayClass ty) := by
    intro w hw
    refine ⟨hw, ?_⟩
    have h2 := (List.mem_filter.mp hw).2
    unfold zk_good at h2
    rcases Bool.or_eq_true _ _ |>.mp h2 with h3 | h3
    · exact Or.inl h3
    · cases w <;> first | exact Or.inr ⟨_, rfl⟩ | simp at h3
  intro w hw
  rcases List.mem_cons.mp hw with rfl | hw
  · exact key _ h
  · exact key _ hw
/-- the static arrays -/
def zk_St (X : zk_X) (U : State) : Prop := ∀ (j : Nat) (q : String × String × String × FieldType × Nat × (Nat → Value)), zk_stats[j]? = some q → va_Z q.1 q.2.1 q.2.2.1 (.ref (zk_sa X j)) (fun a => X.2.1 ≤ a) U U.heap ∧ va_T q.2.2.2.1 (zk_sa X j) q.2.2.2.2.1 q.2.2.2.2.2 (fun a => X.2.1 ≤ a) U U.heap
def zk_G (v : Nat) (X : zk_X) (U : State) : Prop := va_K X.2.2.1 zk_cl (zk_tys X) U ∧ zk_St X U ∧ (∀ w ∈ zk_nest, va_Nw w U) ∧ X.2.1 ≤ U.heap.size ∧ ∀ (I : zk_I) (J : zk_J), va_D (fun q => X.2.1 ≤ q) (zk_w v X I J)
theorem zk_St.go {X : zk_X} {s U : State} {H : Heap} {locs : List Loc} (h : zk_St X s) (hU : U.heap = H) (hS : va_S (fun q => X.2.1 ≤ q) s.heap H locs) (hvm : s.vm.Alike U.vm) : zk_St X U := by
  intro j q hq
  obtain ⟨h1, h2⟩ := h j q hq
  subst hU
  exact ⟨(h1.moved hvm).kept (fun a ha hb => hS.2.1 a ha hb), (h2.moved hvm).kept (fun a ha hb => hS.2.1 a ha hb)⟩
theorem zk_nest_warm {s U : State} (hW : s.WarmedH U.vm) (h : ∀ w ∈ zk_nest, va_Nw w s) : ∀ w ∈ zk_nest, va_Nw w U := by
  intro w hw
  have h1 := h w hw
  have h2 := (List.mem_filter.mp hw).2
  cases w <;> first
    | exact va_Nw.warmF hW h1
    | exact va_Nw.warmM hW h1
    | (simp [zk_isNest] at h2; done)
theorem zk_nest_same {s U : State} (hv : s.vm = U.vm) (h : ∀ w ∈ zk_nest, va_Nw w s) : ∀ w ∈ zk_nest, va_Nw w U := by
  intro w hw
  have h1 := h w hw
  have h2 := (List.mem_filter.mp hw).2
  cases w <;> first
    | (simp [zk_isNest] at h2; done)
    | exact va_Nw.same rfl hv h1
theorem zk_G.go {v : Nat} {X : zk_X} {s U : State} {H : Heap} {locs : List Loc} (h : zk_G v X s) (hU : U.heap = H) (hS : va_S (fun q => X.2.1 ≤ q) s.heap H locs) (hW : s.WarmedH U.vm) : zk_G v X U :=
  ⟨va_K.moved hW.alike h.1, h.2.1.go hU hS hW.alike, zk_nest_warm hW h.2.2.1, Nat.le_trans h.2.2.2.1 (by rw [hU]; exact hS.1), h.2.2.2.2⟩
theorem zk_G.blind {v : Nat} {X : zk_X} {U : State} {g : JFrame} {mk : MethodId} {a : Array Value} (h : zk_G v X U) : zk_G v X (U.calling g mk a) :=
  ⟨va_K.moved (u := U) (U := U.calling g mk a) (Vm.Alike.refl U.vm) h.1, h.2.1.go (U := U.calling g mk a) (locs := []) rfl va_S.rf (Vm.Alike.refl U.vm), zk_nest_same (s := U) (U := U.calling g mk a) rfl h.2.2.1, h.2.2.2.1, h.2.2.2.2⟩
abbrev zk_E : Type := Program × Env × Room × State × MethodId × Array Value × List Frame × Method × Code × Nat × Nat × (State → Prop)
/-- the machine, at pc with these locals (by place), this stack, and a heap that holds the world (I, J), comes to its end -/
def zk_A (v : Nat) (X : zk_X) (E : zk_E) (pc : Nat) (lv : List (Option Value)) (st : List Value) (I : zk_I) (J : zk_J) : Prop := match E with
  | (p, e, R, s, m, args, below, meth, c, cells, slots, Q) => ∀ (ls : Array Slot) (H : Heap) (locs : List Loc), lv.length = c.maxLocals → lv_has ls c.maxLocals (zk_lv 0 lv) → va_P X.2.2.1 zk_cl (zk_w v X I J) H → va_S (fun q => X.2.1 ≤ q) s.heap H locs →
      W p X.1 e R s m args below meth c H locs cells slots Q (F0 m pc ls st)
/-- what holds all through a method -/
def zk_C (v : Nat) (X : zk_X) (E : zk_E) (own : String) (cc : ByteArray) (dep : Nat × Nat) : Prop := match E with
  | (p, _, R, s, m, args, _, _, c, cells, slots, _) => p.tables.exec = Jvm.exec ∧ c.code = cc ∧ s.vm.findClass own = some m.cls ∧ (∀ w ∈ zk_ws, w.before args s = true) ∧ zk_G v X s ∧ dep.1 ≤ R.frames ∧ dep.2 ≤ R.locals ∧ cells ≤ R.cells ∧ slots ≤ R.slots
def zk_Q (v : Nat) (X : zk_X) (r : Option Value) (I : zk_I) (J : zk_J) : Array Value → State → Outcome → State → Prop := fun _ st o t => o = .returned r ∧ va_P X.2.2.1 zk_cl (zk_w v X I J) t.heap ∧ va_F (fun q => X.2.1 ≤ q) st t
/-- how a method ends -/
def zk_R (v : Nat) (X : zk_X) (E : zk_E) (ret : Option FieldType) (r : Option Value) (I : zk_I) (J : zk_J) : Prop := match E with
  | (_, _, _, s, _, args, below, meth, _, cells, slots, Q) => cells = 0 ∧ slots = 0 ∧ Q = MQ below (zk_Q v X r I J) args s 0 0 (fun q => X.2.1 ≤ q) ∧ meth.sig.returnType = ret ∧ meth.locks = false
abbrev zk_rm (d : Nat × Nat) : Room := { frames := d.1, cells := 0, slots := 0, locals := d.2 }
/-- THE CONTRACT: method y, of depth d, on these arguments, in the world (I, J): it answers r, and the world is (I', J') -/
def zk_M (v : Nat) (X : zk_X) (y : MethodName) (b : ByteArray) (maxL : Nat) (ret : Option FieldType) (d : Nat × Nat) (as : List Value) (I : zk_I) (J : zk_J) (r : Option Value) (I' : zk_I) (J' : zk_J) : Prop :=
  Met X.1 y (Cond.code y b maxL ret :: zk_ws) (zk_rm d) (va_Pc as (fun U => zk_G v X U ∧ va_P X.2.2.1 zk_cl (zk_w v X I J) U.heap)) (zk_Q v X r I' J') 0 0 (fun q => X.2.1 ≤ q)
theorem zk_M.intro {v : Nat} {X : zk_X} {y : MethodName} {b : ByteArray} {maxL : Nat} {ret : Option FieldType} {d : Nat × Nat} {as : List Value} {I : zk_I} {J : zk_J} {r : Option Value} {I' : zk_I} {J' : zk_J} (hy : plainName y.cls = true) {lv : List (Option Value)} (hlv : zk_en as ++ List.replicate (maxL - (zk_en as).length) none = lv) (hn : lv.length = maxL)
    (h : ∀ E, zk_C v X E y.cls b d → zk_R v X E ret r I' J' → zk_A v X E 0 lv [] I J) : zk_M v X y b maxL ret d as I J r I' J' := by
  refine Met.ofW (cc := b) (maxL := maxL) (ret := ret) hy rfl ?_
  intro p e s m args below meth c s₁ B hml hv
  obtain ⟨rfl, hG, hP⟩ := hv
  have hts := atoms_spec (ws := Cond.code y b maxL ret :: zk_ws) B.pre
  have hlen : (lg_sl as).length ≤ maxL := by
    rw [← zk_en_len, ← hn, ← hlv, List.length_append]; omega
  have hl := lv_entry as (n := maxL) hlen
  rw [lg_entry_eq]
  generalize (lg_sl as ++ List.replicate (maxL - (lg_sl as).length) Slot.unset).toArray = ls at hl ⊢
  refine h (p, e, _, s, m, _, below, meth, c, 0, 0, _) ⟨B.exec, B.bytes, findClass_of_methodNamed B.named, fun w hw => hts w (List.mem_cons_of_mem _ hw), hG, Nat.le_refl _, Nat.le_refl _, Nat.zero_le _, Nat.zero_le _⟩ ⟨rfl, rfl, rfl, B.returns, B.notSynchronized⟩ ls s.heap [] (by rw [hn, hml]) ⟨by rw [hl.1, hml], hl.2.1, fun q hq => hl.2.2 q (zk_en_in _ as 0 q (by rw [hlv]; exact hq))⟩ hP va_S.rf
section ZK
variable {v : Nat} {X : zk_X} {E : zk_E} {own : String} {cc : ByteArray} {dep : Nat × Nat} {pc pc' : Nat} {lv : List (Option Value)} {st : List Value} {I I' : zk_I} {J J' : zk_J}
/-- an instruction, decoded: its pc, the next one's, itself, its length -/
abbrev zk_D (cc : ByteArray) (pc pc' : Nat) (i : Instr) (n : Nat) : Prop := decode cc pc = .ok (i, n) ∧ pc' = pc + n
theorem zk_cast (k : zk_A v X E pc lv st I' J') (hI : I = I') (hJ : J = J') : zk_A v X E pc lv st I J := by subst hI; subst hJ; exact k
theorem zk_iconst {z : Int} {x : Int32} (h : zk_C v X E own cc dep) (d : zk_D cc pc pc' (.iconst z) 1) (hv : Int32.ofInt z = x) (kk : zk_A v X E pc' lv (.int x :: st) I J) : zk_A v X E pc lv (st) I J := by
  obtain ⟨p, e, R, s, m, args, below, meth, c, cells, slots, Q⟩ := E
  obtain ⟨d, rfl⟩ := d
  intro ls H locs hn hl hP hS
  exact lv_iconst h.1 h.2.1 d hv (kk ls H locs hn hl hP hS)
theorem zk_bipush {z : Int} {x : Int32} (h : zk_C v X E own cc dep) (d : zk_D cc pc pc' (.bipush z) 2) (hv : (Int8.ofInt z).toInt32 = x) (kk : zk_A v X E pc' lv (.int x :: st) I J) : zk_A v X E pc lv (st) I J := by
  obtain ⟨p, e, R, s, m, args, below, meth, c, cells, slots, Q⟩ := E
  obtain ⟨d, rfl⟩ := d
  intro ls H locs hn hl hP hS
  exact lv_bipush h.1 h.2.1 d hv (kk ls H locs hn hl hP hS)
theorem zk_sipush {z : Int} {x : Int32} (h : zk_C v X E own cc dep) (d : zk_D cc pc pc' (.sipush z) 3) (hv : (Int16.ofInt z).toInt32 = x) (kk : zk_A v X E pc' lv (.int x :: st) I J) : zk_A v X E pc lv (st) I J := by
  obtain ⟨p, e, R, s, m, args, below, meth, c, cells, slots, Q⟩ := E
  obtain ⟨d, rfl⟩ := d
  intro ls H locs hn hl hP hS
  exact lv_sipush h.1 h.2.1 d hv (kk ls H locs hn hl hP hS)
theorem zk_lconst {z : Fin 2} {x : Int64} (h : zk_C v X E own cc dep) (d : zk_D cc pc pc' (.lconst z) 1) (hv : Int64.ofNat (z : Nat) = x) (kk : zk_A v X E pc' lv (.long x :: st) I J) : zk_A v X E pc lv (st) I J := by
  obtain ⟨p, e, R, s, m, args, below, meth, c, cells, slots, Q⟩ := E
  obtain ⟨d, rfl⟩ := d
  intro ls H locs hn hl hP hS
  exact lv_lconst h.1 h.2.1 d hv (kk ls H locs hn hl hP hS)
theorem zk_iadd {x y : Int32} (h : zk_C v X E own cc dep) (d : zk_D cc pc pc' (.iadd) 1) (kk : zk_A v X E pc' lv (.int (x + y) :: st) I J) : zk_A v X E pc lv (.int y :: .int x :: st) I J := by
  obtain ⟨p, e, R, s, m, args, below, meth, c, cells, slots, Q⟩ := E
  obtain ⟨d, rfl⟩ := d
  intro ls H locs hn hl hP hS
  exact lv_iadd h.1 h.2.1 d (kk ls H locs hn hl hP hS)
theorem zk_isub {x y : Int32} (h : zk_C v X E own cc dep) (d : zk_D cc pc pc' (.isub) 1) (kk : zk_A v X E pc' lv (.int (x - y) :: st) I J) : zk_A v X E pc lv (.int y :: .int x :: st) I J := by
  obtain ⟨p, e, R, s, m, args, below, meth, c, cells, slots, Q⟩ := E
  obtain ⟨d, rfl⟩ := d
  intro ls H locs hn hl hP hS
  exact lv_isub h.1 h.2.1 d (kk ls H locs hn hl hP hS)
theorem zk_imul {x y : Int32} (h : zk_C v X E own cc dep) (d : zk_D cc pc pc' (.imul) 1) (kk : zk_A v X E pc' lv (.int (x * y) :: st) I J) : zk_A v X E pc lv (.int y :: .int x :: st) I J := by
  obtain ⟨p, e, R, s, m, args, below, meth, c, cells, slots, Q⟩ := E
  obtain ⟨d, rfl⟩ := d
  intro ls H locs hn hl hP hS
  exact lv_imul h.1 h.2.1 d (kk ls H locs hn hl hP hS)
theorem zk_iand {x y : Int32} (h : zk_C v X E own cc dep) (d : zk_D cc pc pc' (.iand) 1) (kk : zk_A v X E pc' lv (.int (x &&& y) :: st) I J) : zk_A v X E pc lv (.int y :: .int x :: st) I J := by
  obtain ⟨p, e, R, s, m, args, below, meth, c, cells, slots, Q⟩ := E
  obtain ⟨d, rfl⟩ := d
  intro ls H locs hn hl hP hS
  exact lv_iand h.1 h.2.1 d (kk ls H locs hn hl hP hS)
theorem zk_ior {x y : Int32} (h : zk_C v X E own cc dep) (d : zk_D cc pc pc' (.ior) 1) (kk : zk_A v X E pc' lv (.int (x ||| y) :: st) I J) : zk_A v X E pc lv (.int y :: .int x :: st) I J := by
  obtain ⟨p, e, R, s, m, args, below, meth, c, cells, slots, Q⟩ := E
  obtain ⟨d, rfl⟩ := d
  intro ls H locs hn hl hP hS
  exact lv_ior h.1 h.2.1 d (kk ls H locs hn hl hP hS)
theorem zk_ixor {x y : Int32} (h : zk_C v X E own cc dep) (d : zk_D cc pc pc' (.ixor) 1) (kk : zk_A v X E pc' lv (.int (x ^^^ y) :: st) I J) : zk_A v X E pc lv (.int y :: .int x :: st) I J := by
  obtain ⟨p, e, R, s, m, args, below, meth, c, cells, slots, Q⟩ := E
  obtain ⟨d, rfl⟩ := d
  intro ls H locs hn hl hP hS
  exact lv_ixor h.1 h.2.1 d (kk ls H locs hn hl hP hS)
theorem zk_ishl {x y : Int32} (h : zk_C v X E own cc dep) (d : zk_D cc pc pc' (.ishl) 1) (kk : zk_A v X E pc' lv (.int (x <<< (y &&& 31)) :: st) I J) : zk_A v X E pc lv (.int y :: .int x :: st) I J := by
  obtain ⟨p, e, R, s, m, args, below, meth, c, cells, slots, Q⟩ := E
  obtain ⟨d, rfl⟩ := d
  intro ls H locs hn hl hP hS
  exact lv_ishl h.1 h.2.1 d (kk ls H locs hn hl hP hS)
theorem zk_ishr {x y : Int32} (h : zk_C v X E own cc dep) (d : zk_D cc pc pc' (.ishr) 1) (kk : zk_A v X E pc' lv (.int (x >>> (y &&& 31)) :: st) I J) : zk_A v X E pc lv (.int y :: .int x :: st) I J := by
  obtain ⟨p, e, R, s, m, args, below, meth, c, cells, slots, Q⟩ := E
  obtain ⟨d, rfl⟩ := d
  intro ls H locs hn hl hP hS
  exact lv_ishr h.1 h.2.1 d (kk ls H locs hn hl hP hS)
theorem zk_ladd {x y : Int64} (h : zk_C v X E own cc dep) (d : zk_D cc pc pc' (.ladd) 1) (kk : zk_A v X E pc' lv (.long (x + y) :: st) I J) : zk_A v X E pc lv (.long y :: .long x :: st) I J := by
  obtain ⟨p, e, R, s, m, args, below, meth, c, cells, slots, Q⟩ := E
  obtain ⟨d, rfl⟩ := d
  intro ls H locs hn hl hP hS
  exact lv_ladd h.1 h.2.1 d (kk ls H locs hn hl hP hS)
theorem zk_lsub {x y : Int64} (h : zk_C v X E own cc dep) (d : zk_D cc pc pc' (.lsub) 1) (kk : zk_A v X E pc' lv (.long (x - y) :: st) I J) : zk_A v X E pc lv (.long y :: .long x :: st) I J := by
  obtain ⟨p, e, R, s, m, args, below, meth, c, cells, slots, Q⟩ := E
  obtain ⟨d, rfl⟩ := d
  intro ls H locs hn hl hP hS
  exact lv_lsub h.1 h.2.1 d (kk ls H locs hn hl hP hS)
theorem zk_lmul {x y : Int64} (h : zk_C v X E own cc dep) (d : zk_D cc pc pc' (.lmul) 1) (kk : zk_A v X E pc' lv (.long (x * y) :: st) I J) : zk_A v X E pc lv (.long y :: .long x :: st) I J := by
  obtain ⟨p, e, R, s, m, args, below, meth, c, cells, slots, Q⟩ := E
  obtain ⟨d, rfl⟩ := d
  intro ls H locs hn hl hP hS
  exact lv_lmul h.1 h.2.1 d (kk ls H locs hn hl hP hS)
theorem zk_land {x y : Int64} (h : zk_C v X E own cc dep) (d : zk_D cc pc pc' (.land) 1) (kk : zk_A v X E pc' lv (.long (x &&& y) :: st) I J) : zk_A v X E pc lv (.long y :: .long x :: st) I J := by
  obtain ⟨p, e, R, s, m, args, below, meth, c, cells, slots, Q⟩ := E
  obtain ⟨d, rfl⟩ := d
  intro ls H locs hn hl hP hS
  exact lv_land h.1 h.2.1 d (kk ls H locs hn hl hP hS)
theorem zk_lor {x y : Int64} (h : zk_C v X E own cc dep) (d : zk_D cc pc pc' (.lor) 1) (kk : zk_A v X E pc' lv (.long (x ||| y) :: st) I J) : zk_A v X E pc lv (.long y :: .long x :: st) I J := by
  obtain ⟨p, e, R, s, m, args, below, meth, c, cells, slots, Q⟩ := E
  obtain ⟨d, rfl⟩ := d
  intro ls H locs hn hl hP hS
  exact lv_lor h.1 h.2.1 d (kk ls H locs hn hl hP hS)
theorem zk_lxor {x y : Int64} (h : zk_C v X E own cc dep) (d : zk_D cc pc pc' (.lxor) 1) (kk : zk_A v X E pc' lv (.long (x ^^^ y) :: st) I J) : zk_A v X E pc lv (.long y :: .long x :: st) I J := by
  obtain ⟨p, e, R, s, m, args, below, meth, c, cells, slots, Q⟩ := E
  obtain ⟨d, rfl⟩ := d
  intro ls H locs hn hl hP hS
  exact lv_lxor h.1 h.2.1 d (kk ls H locs hn hl hP hS)
theorem zk_idiv {x y : Int32} (h : zk_C v X E own cc dep) (d : zk_D cc pc pc' (.idiv) 1) (hne : ¬ y = 0) (kk : zk_A v X E pc' lv (.int (x / y) :: st) I J) : zk_A v X E pc lv (.int y :: .int x :: st) I J := by
  obtain ⟨p, e, R, s, m, args, below, meth, c, cells, slots, Q⟩ := E
  obtain ⟨d, rfl⟩ := d
  intro ls H locs hn hl hP hS
  exact lv_idiv h.1 h.2.1 d hne (kk ls H locs hn hl hP hS)
theorem zk_irem {x y : Int32} (h : zk_C v X E own cc dep) (d : zk_D cc pc pc' (.irem) 1) (hne : ¬ y = 0) (kk : zk_A v X E pc' lv (.int (x - x / y * y) :: st) I J) : zk_A v X E pc lv (.int y :: .int x :: st) I J := by
  obtain ⟨p, e, R, s, m, args, below, meth, c, cells, slots, Q⟩ := E
  obtain ⟨d, rfl⟩ := d
  intro ls H locs hn hl hP hS
  exact lv_irem h.1 h.2.1 d hne (kk ls H locs hn hl hP hS)
theorem zk_lrem {x y : Int64} (h : zk_C v X E own cc dep) (d : zk_D cc pc pc' (.lrem) 1) (hne : ¬ y = 0) (kk : zk_A v X E pc' lv (.long (x - x / y * y) :: st) I J) : zk_A v X E pc lv (.long y :: .long x :: st) I J := by
  obtain ⟨p, e, R, s, m, args, below, meth, c, cells, slots, Q⟩ := E
  obtain ⟨d, rfl⟩ := d
  intro ls H locs hn hl hP hS
  exact lv_lrem h.1 h.2.1 d hne (kk ls H locs hn hl hP hS)
theorem zk_ineg {x : Int32} (h : zk_C v X E own cc dep) (d : zk_D cc pc pc' (.ineg) 1) (kk : zk_A v X E pc' lv (.int (-x) :: st) I J) : zk_A v X E pc lv (.int x :: st) I J := by
  obtain ⟨p, e, R, s, m, args, below, meth, c, cells, slots, Q⟩ := E
  obtain ⟨d, rfl⟩ := d
  intro ls H locs hn hl hP hS
  exact lv_ineg h.1 h.2.1 d (kk ls H locs hn hl hP hS)
theorem zk_i2l {x : Int32} (h : zk_C v X E own cc dep) (d : zk_D cc pc pc' (.i2l) 1) (kk : zk_A v X E pc' lv (.long x.toInt64 :: st) I J) : zk_A v X E pc lv (.int x :: st) I J := by
  obtain ⟨p, e, R, s, m, args, below, meth, c, cells, slots, Q⟩ := E
  obtain ⟨d, rfl⟩ := d
  intro ls H locs hn hl hP hS
  exact lv_i2l h.1 h.2.1 d rfl (kk ls H locs hn hl hP hS)
theorem zk_l2i {x : Int64} (h : zk_C v X E own cc dep) (d : zk_D cc pc pc' (.l2i) 1) (kk : zk_A v X E pc' lv (.int x.toInt32 :: st) I J) : zk_A v X E pc lv (.long x :: st) I J := by
  obtain ⟨p, e, R, s, m, args, below, meth, c, cells, slots, Q⟩ := E
  obtain ⟨d, rfl⟩ := d
  intro ls H locs hn hl hP hS
  exact lv_l2i h.1 h.2.1 d rfl (kk ls H locs hn hl hP hS)
theorem zk_i2b {x : Int32} (h : zk_C v X E own cc dep) (d : zk_D cc pc pc' (.i2b) 1) (kk : zk_A v X E pc' lv (.int x.toInt8.toInt32 :: st) I J) : zk_A v X E pc lv (.int x :: st) I J := by
  obtain ⟨p, e, R, s, m, args, below, meth, c, cells, slots, Q⟩ := E
  obtain ⟨d, rfl⟩ := d
  intro ls H locs hn hl hP hS
  exact lv_i2b h.1 h.2.1 d rfl (kk ls H locs hn hl hP hS)
theorem zk_lushr {x : Int64} {y : Int32} (h : zk_C v X E own cc dep) (d : zk_D cc pc pc' (.lushr) 1) (kk : zk_A v X E pc' lv (.long (x.toUInt64 >>> (y.toInt64.toUInt64 &&& Int64.toUInt64 63)).toInt64 :: st) I J) : zk_A v X E pc lv (.int y :: .long x :: st) I J := by
  obtain ⟨p, e, R, s, m, args, below, meth, c, cells, slots, Q⟩ := E
  obtain ⟨d, rfl⟩ := d
  intro ls H locs hn hl hP hS
  exact lv_lushr h.1 h.2.1 d rfl (kk ls H locs hn hl hP hS)
theorem zk_lshl {x : Int64} {y : Int32} (h : zk_C v X E own cc dep) (d : zk_D cc pc pc' (.lshl) 1) (kk : zk_A v X E pc' lv (.long (x <<< (y.toInt64 &&& 63)) :: st) I J) : zk_A v X E pc lv (.int y :: .long x :: st) I J := by
  obtain ⟨p, e, R, s, m, args, below, meth, c, cells, slots, Q⟩ := E
  obtain ⟨d, rfl⟩ := d
  intro ls H locs hn hl hP hS
  exact lv_lshl h.1 h.2.1 d rfl (kk ls H locs hn hl hP hS)
theorem zk_lshr {x : Int64} {y : Int32} (h : zk_C v X E own cc dep) (d : zk_D cc pc pc' (.lshr) 1) (kk : zk_A v X E pc' lv (.long (x >>> (y.toInt64 &&& 63)) :: st) I J) : zk_A v X E pc lv (.int y :: .long x :: st) I J := by
  obtain ⟨p, e, R, s, m, args, below, meth, c, cells, slots, Q⟩ := E
  obtain ⟨d, rfl⟩ := d
  intro ls H locs hn hl hP hS
  exact lv_lshr h.1 h.2.1 d rfl (kk ls H locs hn hl hP hS)
theorem zk_iushr {x y : Int32} (h : zk_C v X E own cc dep) (d : zk_D cc pc pc' (.iushr) 1) (kk : zk_A v X E pc' lv (.int (x.toUInt32 >>> (y.toUInt32 &&& Int32.toUInt32 31)).toInt32 :: st) I J) : zk_A v X E pc lv (.int y :: .int x :: st) I J := by
  obtain ⟨p, e, R, s, m, args, below, meth, c, cells, slots, Q⟩ := E
  obtain ⟨d, rfl⟩ := d
  intro ls H locs hn hl hP hS
  exact lv_iushr h.1 h.2.1 d rfl (kk ls H locs hn hl hP hS)
theorem zk_dup {a : Value} (h : zk_C v X E own cc dep) (d : zk_D cc pc pc' (.dup) 1) (hc : a.category = 1) (kk : zk_A v X E pc' lv (a :: a :: st) I J) : zk_A v X E pc lv (a :: st) I J := by
  obtain ⟨p, e, R, s, m, args, below, meth, c, cells, slots, Q⟩ := E
  obtain ⟨d, rfl⟩ := d
  intro ls H locs hn hl hP hS
  exact lv_dup h.1 h.2.1 d hc (kk ls H locs hn hl hP hS)
theorem zk_pop {a : Value} (h : zk_C v X E own cc dep) (d : zk_D cc pc pc' (.pop) 1) (hc : a.category = 1) (kk : zk_A v X E pc' lv (st) I J) : zk_A v X E pc lv (a :: st) I J := by
  obtain ⟨p, e, R, s, m, args, below, meth, c, cells, slots, Q⟩ := E
  obtain ⟨d, rfl⟩ := d
  intro ls H locs hn hl hP hS
  exact lv_pop h.1 h.2.1 d hc (kk ls H locs hn hl hP hS)
theorem zk_dup_x1 {a b : Value} (h : zk_C v X E own cc dep) (d : zk_D cc pc pc' (.dup_x1) 1) (hc : a.category = 1) (hb : b.category = 1) (kk : zk_A v X E pc' lv (a :: b :: a :: st) I J) : zk_A v X E pc lv (a :: b :: st) I J := by
  obtain ⟨p, e, R, s, m, args, below, meth, c, cells, slots, Q⟩ := E
  obtain ⟨d, rfl⟩ := d
  intro ls H locs hn hl hP hS
  exact lv_dup_x1 h.1 h.2.1 d hc hb (kk ls H locs hn hl hP hS)
theorem zk_dup2 {a b : Value} (h : zk_C v X E own cc dep) (d : zk_D cc pc pc' (.dup2) 1) (hc : a.category = 1) (hb : b.category = 1) (kk : zk_A v X E pc' lv (a :: b :: a :: b :: st) I J) : zk_A v X E pc lv (a :: b :: st) I J := by
  obtain ⟨p, e, R, s, m, args, below, meth, c, cells, slots, Q⟩ := E
  obtain ⟨d, rfl⟩ := d
  intro ls H locs hn hl hP hS
  exact lv_dup2_11 h.1 h.2.1 d hc hb (kk ls H locs hn hl hP hS)
theorem zk_lcmp {x y : Int64} (h : zk_C v X E own cc dep) (d : zk_D cc pc pc' (.lcmp) 1) (kk : zk_A v X E pc' lv (.int (lg_cmp x y) :: st) I J) : zk_A v X E pc lv (.long y :: .long x :: st) I J := by
  obtain ⟨p, e, R, s, m, args, below, meth, c, cells, slots, Q⟩ := E
  obtain ⟨d, rfl⟩ := d
  intro ls H locs hn hl hP hS
  exact W.lcmp h.1 h.2.1 d (kk ls H locs hn hl hP hS)
theorem zk_if_eq {x : Int32} {off : Int} (h : zk_C v X E own cc dep) (d : zk_D cc pc pc' (.ifCond .eq off) 3) (tgt : Nat) (ht : (pc : Int) + off = (tgt : Int)) (kt : x = 0 → zk_A v X E tgt lv st I J) (kf : ¬ (x = 0) → zk_A v X E pc' lv st I J) : zk_A v X E pc lv (.int x :: st) I J := by
  obtain ⟨p, e, R, s, m, args, below, meth, c, cells, slots, Q⟩ := E
  obtain ⟨d, rfl⟩ := d
  intro ls H locs hn hl hP hS
  exact lv_if_eq h.1 h.2.1 d ht (fun q => kt q ls H locs hn hl hP hS) (fun q => kf q ls H locs hn hl hP hS)
theorem zk_icmp_eq {x y : Int32} {off : Int} (h : zk_C v X E own cc dep) (d : zk_D cc pc pc' (.if_icmp .eq off) 3) (tgt : Nat) (ht : (pc : Int) + off = (tgt : Int)) (kt : x = y → zk_A v X E tgt lv st I J) (kf : ¬ (x = y) → zk_A v X E pc' lv st I J) : zk_A v X E pc lv (.int y :: .int x :: st) I J := by
  obtain ⟨p, e, R, s, m, args, below, meth, c, cells, slots, Q⟩ := E
  obtain ⟨d, rfl⟩ := d
  intro ls H locs hn hl hP hS
  exact lv_icmp_eq h.1 h.2.1 d ht (fun q => kt q ls H locs hn hl hP hS) (fun q => kf q ls H locs hn hl hP hS)
theorem zk_if_ne {x : Int32} {off : Int} (h : zk_C v X E own cc dep) (d : zk_D cc pc pc' (.ifCond .ne off) 3) (tgt : Nat) (ht : (pc : Int) + off = (tgt : Int)) (kt : ¬ x = 0 → zk_A v X E tgt lv st I J) (kf : x = 0 → zk_A v X E pc' lv st I J) : zk_A v X E pc lv (.int x :: st) I J := by
  obtain ⟨p, e, R, s, m, args, below, meth, c, cells, slots, Q⟩ := E
  obtain ⟨d, rfl⟩ := d
  intro ls H locs hn hl hP hS
  exact lv_if_ne h.1 h.2.1 d ht (fun q => kt q ls H locs hn hl hP hS) (fun q => kf q ls H locs hn hl hP hS)
theorem zk_icmp_ne {x y : Int32} {off : Int} (h : zk_C v X E own cc dep) (d : zk_D cc pc pc' (.if_icmp .ne off) 3) (tgt : Nat) (ht : (pc : Int) + off = (tgt : Int)) (kt : ¬ x = y → zk_A v X E tgt lv st I J) (kf : x = y → zk_A v X E pc' lv st I J) : zk_A v X E pc lv (.int y :: .int x :: st) I J := by
  obtain ⟨p, e, R, s, m, args, below, meth, c, cells, slots, Q⟩ := E
  obtain ⟨d, rfl⟩ := d
  intro ls H locs hn hl hP hS
  exact lv_icmp_ne h.1 h.2.1 d ht (fun q => kt q ls H locs hn hl hP hS) (fun q => kf q ls H locs hn hl hP hS)
theorem zk_if_lt {x : Int32} {off : Int} (h : zk_C v X E own cc dep) (d : zk_D cc pc pc' (.ifCond .lt off) 3) (tgt : Nat) (ht : (pc : Int) + off = (tgt : Int)) (kt : x < 0 → zk_A v X E tgt lv st I J) (kf : ¬ (x < 0) → zk_A v X E pc' lv st I J) : zk_A v X E pc lv (.int x :: st) I J := by
  obtain ⟨p, e, R, s, m, args, below, meth, c, cells, slots, Q⟩ := E
  obtain ⟨d, rfl⟩ := d
  intro ls H locs hn hl hP hS
  exact lv_if_lt h.1 h.2.1 d ht (fun q => kt q ls H locs hn hl hP hS) (fun q => kf q ls H locs hn hl hP hS)
theorem zk_icmp_lt {x y : Int32} {off : Int} (h : zk_C v X E own cc dep) (d : zk_D cc pc pc' (.if_icmp .lt off) 3) (tgt : Nat) (ht : (pc : Int) + off = (tgt : Int)) (kt : x < y → zk_A v X E tgt lv st I J) (kf : ¬ (x < y) → zk_A v X E pc' lv st I J) : zk_A v X E pc lv (.int y :: .int x :: st) I J := by
  obtain ⟨p, e, R, s, m, args, below, meth, c, cells, slots, Q⟩ := E
  obtain ⟨d, rfl⟩ := d
  intro ls H locs hn hl hP hS
  exact lv_icmp_lt h.1 h.2.1 d ht (fun q => kt q ls H locs hn hl hP hS) (fun q => kf q ls H locs hn hl hP hS)
theorem zk_if_ge {x : Int32} {off : Int} (h : zk_C v X E own cc dep) (d : zk_D cc pc pc' (.ifCond .ge off) 3) (tgt : Nat) (ht : (pc : Int) + off = (tgt : Int)) (kt : 0 ≤ x → zk_A v X E tgt lv st I J) (kf : ¬ (0 ≤ x) → zk_A v X E pc' lv st I J) : zk_A v X E pc lv (.int x :: st) I J := by
  obtain ⟨p, e, R, s, m, args, below, meth, c, cells, slots, Q⟩ := E
  obtain ⟨d, rfl⟩ := d
  intro ls H locs hn hl hP hS
  exact lv_if_ge h.1 h.2.1 d ht (fun q => kt q ls H locs hn hl hP hS) (fun q => kf q ls H locs hn hl hP hS)
theorem zk_icmp_ge {x y : Int32} {off : Int} (h : zk_C v X E own cc dep) (d : zk_D cc pc pc' (.if_icmp .ge off) 3) (tgt : Nat) (ht : (pc : Int) + off = (tgt : Int)) (kt : y ≤ x → zk_A v X E tgt lv st I J) (kf : ¬ (y ≤ x) → zk_A v X E pc' lv st I J) : zk_A v X E pc lv (.int y :: .int x :: st) I J := by
  obtain ⟨p, e, R, s, m, args, below, meth, c, cells, slots, Q⟩ := E
  obtain ⟨d, rfl⟩ := d
  intro ls H locs hn hl hP hS
  exact lv_icmp_ge h.1 h.2.1 d ht (fun q => kt q ls H locs hn hl hP hS) (fun q => kf q ls H locs hn hl hP hS)
theorem zk_if_gt {x : Int32} {off : Int} (h : zk_C v X E own cc dep) (d : zk_D cc pc pc' (.ifCond .gt off) 3) (tgt : Nat) (ht : (pc : Int) + off = (tgt : Int)) (kt : 0 < x → zk_A v X E tgt lv st I J) (kf : ¬ (0 < x) → zk_A v X E pc' lv st I J) : zk_A v X E pc lv (.int x :: st) I J := by
  obtain ⟨p, e, R, s, m, args, below, meth, c, cells, slots, Q⟩ := E
  obtain ⟨d, rfl⟩ := d
  intro ls H locs hn hl hP hS
  exact lv_if_gt h.1 h.2.1 d ht (fun q => kt q ls H locs hn hl hP hS) (fun q => kf q ls H locs hn hl hP hS)
theorem zk_icmp_gt {x y : Int32} {off : Int} (h : zk_C v X E own cc dep) (d : zk_D cc pc pc' (.if_icmp .gt off) 3) (tgt : Nat) (ht : (pc : Int) + off = (tgt : Int)) (kt : y < x → zk_A v X E tgt lv st I J) (kf : ¬ (y < x) → zk_A v X E pc' lv st I J) : zk_A v X E pc lv (.int y :: .int x :: st) I J := by
  obtain ⟨p, e, R, s, m, args, below, meth, c, cells, slots, Q⟩ := E
  obtain ⟨d, rfl⟩ := d
  intro ls H locs hn hl hP hS
  exact lv_icmp_gt h.1 h.2.1 d ht (fun q => kt q ls H locs hn hl hP hS) (fun q => kf q ls H locs hn hl hP hS)
theorem zk_if_le {x : Int32} {off : Int} (h : zk_C v X E own cc dep) (d : zk_D cc pc pc' (.ifCond .le off) 3) (tgt : Nat) (ht : (pc : Int) + off = (tgt : Int)) (kt : x ≤ 0 → zk_A v X E tgt lv st I J) (kf : ¬ (x ≤ 0) → zk_A v X E pc' lv st I J) : zk_A v X E pc lv (.int x :: st) I J := by
  obtain ⟨p, e, R, s, m, args, below, meth, c, cells, slots, Q⟩ := E
  obtain ⟨d, rfl⟩ := d
  intro ls H locs hn hl hP hS
  exact lv_if_le h.1 h.2.1 d ht (fun q => kt q ls H locs hn hl hP hS) (fun q => kf q ls H locs hn hl hP hS)
theorem zk_icmp_le {x y : Int32} {off : Int} (h : zk_C v X E own cc dep) (d : zk_D cc pc pc' (.if_icmp .le off) 3) (tgt : Nat) (ht : (pc : Int) + off = (tgt : Int)) (kt : x ≤ y → zk_A v X E tgt lv st I J) (kf : ¬ (x ≤ y) → zk_A v X E pc' lv st I J) : zk_A v X E pc lv (.int y :: .int x :: st) I J := by
  obtain ⟨p, e, R, s, m, args, below, meth, c, cells, slots, Q⟩ := E
  obtain ⟨d, rfl⟩ := d
  intro ls H locs hn hl hP hS
  exact lv_icmp_le h.1 h.2.1 d ht (fun q => kt q ls H locs hn hl hP hS) (fun q => kf q ls H locs hn hl hP hS)
theorem zk_goto {off : Int} (h : zk_C v X E own cc dep) (d : zk_D cc pc pc' (.goto off) 3) (tgt : Nat) (ht : (pc : Int) + off = (tgt : Int)) (kk : zk_A v X E tgt lv st I J) : zk_A v X E pc lv st I J := by
  obtain ⟨p, e, R, s, m, args, below, meth, c, cells, slots, Q⟩ := E
  obtain ⟨d, rfl⟩ := d
  intro ls H locs hn hl hP hS
  exact lv_goto h.1 h.2.1 d ht (kk ls H locs hn hl hP hS)
theorem zk_tabOut {dflt lo hi : Int} {offs : Array Int} {len : Nat} {x : Int32} (h : zk_C v X E own cc dep) (d : decode cc pc = .ok (.tableswitch dflt lo hi offs, len)) (tgt : Nat) (hx : x.toInt < lo ∨ hi < x.toInt) (ht : (pc : Int) + dflt = (tgt : Int)) (kk : zk_A v X E tgt lv st I J) : zk_A v X E pc lv (.int x :: st) I J := by
  obtain ⟨p, e, R, s, m, args, below, meth, c, cells, slots, Q⟩ := E
  intro ls H locs hn hl hP hS
  exact lv_tableOut h.1 h.2.1 d hx ht (kk ls H locs hn hl hP hS)
theorem zk_tabIn {dflt lo hi : Int} {offs : Array Int} {len : Nat} {x : Int32} {off : Int} (h : zk_C v X E own cc dep) (d : decode cc pc = .ok (.tableswitch dflt lo hi offs, len)) (tgt : Nat) (h1 : ¬ x.toInt < lo) (h2 : ¬ hi < x.toInt) (ho : offs[(x.toInt - lo).toNat]? = some off) (ht : (pc : Int) + off = (tgt : Int)) (kk : zk_A v X E tgt lv st I J) : zk_A v X E pc lv (.int x :: st) I J := by
  obtain ⟨p, e, R, s, m, args, below, meth, c, cells, slots, Q⟩ := E
  intro ls H locs hn hl hP hS
  exact lv_tableIn h.1 h.2.1 d h1 h2 ho ht (kk ls H locs hn hl hP hS)
theorem zk_ldc {k : Nat} {x : Int32} (h : zk_C v X E own cc dep) (d : zk_D cc pc pc' (.ldc k) 2) (hc : Jvm.Cond.constant own k x ∈ zk_ws) (kk : zk_A v X E pc' lv (.int x :: st) I J) : zk_A v X E pc lv st I J := by
  obtain ⟨p, e, R, s, m, args, below, meth, c, cells, slots, Q⟩ := E
  obtain ⟨d, rfl⟩ := d
  intro ls H locs hn hl hP hS
  exact lv_ldc h.1 h.2.1 h.2.2.1 (h.2.2.2.1 _ hc) d (kk ls H locs hn hl hP hS)
theorem zk_ldc2 {k : Nat} {x : Int64} (h : zk_C v X E own cc dep) (d : zk_D cc pc pc' (.ldc2_w k) 3) (hc : Jvm.Cond.constantLong own k x ∈ zk_ws) (kk : zk_A v X E pc' lv (.long x :: st) I J) : zk_A v X E pc lv st I J := by
  obtain ⟨p, e, R, s, m, args, below, meth, c, cells, slots, Q⟩ := E
  obtain ⟨d, rfl⟩ := d
  intro ls H locs hn hl hP hS
  exact lv_ldc2 h.1 h.2.1 h.2.2.1 (h.2.2.2.1 _ hc) d (kk ls H locs hn hl hP hS)
theorem zk_iload {k : Nat} {x : Int32} (h : zk_C v X E own cc dep) (hl : lv[k]? = some (some (.int x))) (d : zk_D cc pc pc' (.iload k) 2) (kk : zk_A v X E pc' lv (.int x :: st) I J) : zk_A v X E pc lv st I J := by
  obtain ⟨p, e, R, s, m, args, below, meth, c, cells, slots, Q⟩ := E
  obtain ⟨d, rfl⟩ := d
  intro ls H locs hn hl2 hP hS
  exact lv_iload h.1 h.2.1 d (zk_lv_at hl2 hl) (kk ls H locs hn hl2 hP hS)
theorem zk_lload {k : Nat} {x : Int64} (h : zk_C v X E own cc dep) (hl : lv[k]? = some (some (.long x))) (d : zk_D cc pc pc' (.lload k) 2) (kk : zk_A v X E pc' lv (.long x :: st) I J) : zk_A v X E pc lv st I J := by
  obtain ⟨p, e, R, s, m, args, below, meth, c, cells, slots, Q⟩ := E
  obtain ⟨d, rfl⟩ := d
  intro ls H locs hn hl2 hP hS
  exact lv_lload h.1 h.2.1 d (zk_lv_at hl2 hl) (kk ls H locs hn hl2 hP hS)
theorem zk_aload {k : Nat} {x : Nat} (h : zk_C v X E own cc dep) (hl : lv[k]? = some (some (.ref x))) (d : zk_D cc pc pc' (.aload k) 2) (kk : zk_A v X E pc' lv (.ref x :: st) I J) : zk_A v X E pc lv st I J := by
  obtain ⟨p, e, R, s, m, args, below, meth, c, cells, slots, Q⟩ := E
  obtain ⟨d, rfl⟩ := d
  intro ls H locs hn hl2 hP hS
  exact lv_aload h.1 h.2.1 d (zk_lv_at hl2 hl) (kk ls H locs hn hl2 hP hS)
theorem zk_iload_n {k : Fin 4} {x : Int32} (h : zk_C v X E own cc dep) (hl : lv[(k : Nat)]? = some (some (.int x))) (d : zk_D cc pc pc' (.iload_n k) 1) (kk : zk_A v X E pc' lv (.int x :: st) I J) : zk_A v X E pc lv st I J := by
  obtain ⟨p, e, R, s, m, args, below, meth, c, cells, slots, Q⟩ := E
  obtain ⟨d, rfl⟩ := d
  intro ls H locs hn hl2 hP hS
  exact lv_iload_n h.1 h.2.1 d rfl (zk_lv_at hl2 hl) (kk ls H locs hn hl2 hP hS)
theorem zk_lload_n {k : Fin 4} {x : Int64} (h : zk_C v X E own cc dep) (hl : lv[(k : Nat)]? = some (some (.long x))) (d : zk_D cc pc pc' (.lload_n k) 1) (kk : zk_A v X E pc' lv (.long x :: st) I J) : zk_A v X E pc lv st I J := by
  obtain ⟨p, e, R, s, m, args, below, meth, c, cells, slots, Q⟩ := E
  obtain ⟨d, rfl⟩ := d
  intro ls H locs hn hl2 hP hS
  exact lv_lload_n h.1 h.2.1 d rfl (zk_lv_at hl2 hl) (kk ls H locs hn hl2 hP hS)
theorem zk_aload_n {k : Fin 4} {x : Nat} (h : zk_C v X E own cc dep) (hl : lv[(k : Nat)]? = some (some (.ref x))) (d : zk_D cc pc pc' (.aload_n k) 1) (kk : zk_A v X E pc' lv (.ref x :: st) I J) : zk_A v X E pc lv st I J := by
  obtain ⟨p, e, R, s, m, args, below, meth, c, cells, slots, Q⟩ := E
  obtain ⟨d, rfl⟩ := d
  intro ls H locs hn hl2 hP hS
  exact lv_aload_n h.1 h.2.1 d rfl (zk_lv_at hl2 hl) (kk ls H locs hn hl2 hP hS)
theorem zk_store1 {k : Nat} {x : Value} {i : Instr} {n : Nat} (hk : k < lv.length) (hp : k = 0 ∨ zk_n2 lv[k - 1]? = true) (kk : zk_A v X E (pc + n) (lv.set k (some x)) st I J)
    (rule : ∀ {p : Program} {e : Env} {R : Room} {s : State} {m : MethodId} {args : Array Value} {below : List Frame} {meth : Method} {c : Code} {cells slots : Nat} {Q : State → Prop} {ls : Array Slot} {H : Heap} {locs : List Loc}, E = (p, e, R, s, m, args, below, meth, c, cells, slots, Q) → lv_has ls c.maxLocals (zk_lv 0 lv) → k < c.maxLocals →
      (∀ ls', lv_has ls' c.maxLocals ((k, x) :: (zk_lv 0 lv).filter (fun q => !(q.1 == k) && !(q.1 + 1 == k && q.2.category == 2))) → W p X.1 e R s m args below meth c H locs cells slots Q (F0 m (pc + n) ls' st)) → W p X.1 e R s m args below meth c H locs cells slots Q (F0 m pc ls (x :: st))) : zk_A v X E pc lv (x :: st) I J := by
  obtain ⟨p, e, R, s, m, args, below, meth, c, cells, slots, Q⟩ := E
  intro ls H locs hn hl hP hS
  exact rule rfl hl (by rw [← hn]; exact hk) (fun ls' hl' => kk ls' H locs (by rw [List.length_set]; exact hn) (zk_lv_st1 hk hp hl') hP hS)
theorem zk_store2 {k : Nat} {x : Value} {i : Instr} {n : Nat} (hk : k + 1 < lv.length) (hp : k = 0 ∨ zk_n2 lv[k - 1]? = true) (kk : zk_A v X E (pc + n) ((lv.set k (some x)).set (k + 1) none) st I J)
    (rule : ∀ {p : Program} {e : Env} {R : Room} {s : State} {m : MethodId} {args : Array Value} {below : List Frame} {meth : Method} {c : Code} {cells slots : Nat} {Q : State → Prop} {ls : Array Slot} {H : Heap} {locs : List Loc}, E = (p, e, R, s, m, args, below, meth, c, cells, slots, Q) → lv_has ls c.maxLocals (zk_lv 0 lv) → k + 1 < c.maxLocals →
      (∀ ls', lv_has ls' c.maxLocals ((k, x) :: (zk_lv 0 lv).filter (fun q => !(q.1 == k) && (!(q.1 == k + 1) && !(q.1 + 1 == k && q.2.category == 2)))) → W p X.1 e R s m args below meth c H locs cells slots Q (F0 m (pc + n) ls' st)) → W p X.1 e R s m args below meth c H locs cells slots Q (F0 m pc ls (x :: st))) : zk_A v X E pc lv (x :: st) I J := by
  obtain ⟨p, e, R, s, m, args, below, meth, c, cells, slots, Q⟩ := E
  intro ls H locs hn hl hP hS
  exact rule rfl hl (by rw [← hn]; exact hk) (fun ls' hl' => kk ls' H locs (by rw [List.length_set, List.length_set]; exact hn) (zk_lv_st2 hk hp hl') hP hS)
theorem zk_istoreG {k : Nat} {x : Int32} (h : zk_C v X E own cc dep) (d : zk_D cc pc pc' (.istore k) 2) (hk : k < lv.length) (hp : k = 0 ∨ zk_n2 lv[k - 1]? = true) (kk : zk_A v X E pc' (lv.set k (some (.int x))) st I J) : zk_A v X E pc lv (.int x :: st) I J := by
  obtain ⟨d, rfl⟩ := d
  refine zk_store1 (i := .nop) (n := 2) hk hp kk ?_
  intro p e R s m args below meth c cells slots Q ls H locs hE hl hk' g
  subst hE
  exact lv_istore h.1 h.2.1 d hl hk' rfl g
theorem zk_istoreNG {k : Fin 4} {x : Int32} (h : zk_C v X E own cc dep) (d : zk_D cc pc pc' (.istore_n k) 1) (hk : (k : Nat) < lv.length) (hp : (k : Nat) = 0 ∨ zk_n2 lv[(k : Nat) - 1]? = true) (kk : zk_A v X E pc' (lv.set k (some (.int x))) st I J) : zk_A v X E pc lv (.int x :: st) I J := by
  obtain ⟨d, rfl⟩ := d
  refine zk_store1 (i := .nop) (n := 1) hk hp kk ?_
  intro p e R s m args below meth c cells slots Q ls H locs hE hl hk' g
  subst hE
  exact lv_istore_n h.1 h.2.1 d rfl hl hk' rfl g
theorem zk_astoreG {k : Nat} {x : Nat} (h : zk_C v X E own cc dep) (d : zk_D cc pc pc' (.astore k) 2) (hk : k < lv.length) (hp : k = 0 ∨ zk_n2 lv[k - 1]? = true) (kk : zk_A v X E pc' (lv.set k (some (.ref x))) st I J) : zk_A v X E pc lv (.ref x :: st) I J := by
  obtain ⟨d, rfl⟩ := d
  refine zk_store1 (i := .nop) (n := 2) hk hp kk ?_
  intro p e R s m args below meth c cells slots Q ls H locs hE hl hk' g
  subst hE
  exact lv_astore h.1 h.2.1 d hl hk' rfl g
theorem zk_astoreNG {k : Fin 4} {x : Nat} (h : zk_C v X E own cc dep) (d : zk_D cc pc pc' (.astore_n k) 1) (hk : (k : Nat) < lv.length) (hp : (k : Nat) = 0 ∨ zk_n2 lv[(k : Nat) - 1]? = true) (kk : zk_A v X E pc' (lv.set k (some (.ref x))) st I J) : zk_A v X E pc lv (.ref x :: st) I J := by
  obtain ⟨d, rfl⟩ := d
  refine zk_store1 (i := .nop) (n := 1) hk hp kk ?_
  intro p e R s m args below meth c cells slots Q ls H locs hE hl hk' g
  subst hE
  exact lv_astore_n h.1 h.2.1 d rfl hl hk' rfl g
theorem zk_lstoreG {k : Nat} {x : Int64} (h : zk_C v X E own cc dep) (d : zk_D cc pc pc' (.lstore k) 2) (hk : k + 1 < lv.length) (hp : k = 0 ∨ zk_n2 lv[k - 1]? = true) (kk : zk_A v X E pc' ((lv.set k (some (.long x))).set (k + 1) none) st I J) : zk_A v X E pc lv (.long x :: st) I J := by
  obtain ⟨d, rfl⟩ := d
  refine zk_store2 (i := .nop) (n := 2) hk hp kk ?_
  intro p e R s m args below meth c cells slots Q ls H locs hE hl hk' g
  subst hE
  exact lv_lstore h.1 h.2.1 d hl hk' rfl g
theorem zk_lstoreNG {k : Fin 4} {x : Int64} (h : zk_C v X E own cc dep) (d : zk_D cc pc pc' (.lstore_n k) 1) (hk : (k : Nat) + 1 < lv.length) (hp : (k : Nat) = 0 ∨ zk_n2 lv[(k : Nat) - 1]? = true) (kk : zk_A v X E pc' ((lv.set k (some (.long x))).set ((k : Nat) + 1) none) st I J) : zk_A v X E pc lv (.long x :: st) I J := by
  obtain ⟨d, rfl⟩ := d
  refine zk_store2 (i := .nop) (n := 1) hk hp kk ?_
  intro p e R s m args below meth c cells slots Q ls H locs hE hl hk' g
  subst hE
  exact lv_lstore_n h.1 h.2.1 d rfl hl hk' rfl g
theorem zk_iincG {k : Nat} {n : Int} {x : Int32} (h : zk_C v X E own cc dep) (d : zk_D cc pc pc' (.iinc k n) 3) (hx : lv[k]? = some (some (.int x))) (kk : zk_A v X E pc' (lv.set k (some (.int (x + Int32.ofInt n)))) st I J) : zk_A v X E pc lv st I J := by
  obtain ⟨p, e, R, s, m, args, below, meth, c, cells, slots, Q⟩ := E
  obtain ⟨d, rfl⟩ := d
  intro ls H locs hn hl hP hS
  have hk : k < lv.length := (List.getElem?_eq_some_iff.mp hx).1
  obtain ⟨j, hj⟩ := List.getElem?_of_mem (zk_lv_in lv 0 k _ hx)
  rw [Nat.zero_add] at hj
  refine lv_iinc h.1 h.2.1 d hl hj rfl (by rw [← hn]; exact hk) rfl (fun ls' hl' => kk ls' H locs (by rw [List.length_set]; exact hn) (zk_lv_st1 hk ?_ hl') hP hS)
  by_cases h0 : k = 0
  · exact Or.inl h0
  · right
    cases hz : lv[k - 1]? with
    | none => rfl
    | some o =>
      cases o with
      | none => rfl
      | some y =>
        have hy := zk_lv_at hl hz
        have hx2 := zk_lv_at hl hx
        by_cases hc : y.category = 2
        · have := hl.2.1.1 _ _ hy hc
          rw [show k - 1 + 1 = k by omega, hx2] at this
          cases this
        · simp [zk_n2, hc]
/-- a field's link: the class's own word, or a nest mate's -/
abbrev zk_fl (own : String) (idx ci j : Nat) (C : String) (T : u_T) (n : Nat) : Prop := zk_cl[ci]? = some (C, T, n) ∧ j < n ∧ (∀ w ∈ u_ws C T n, w ∈ zk_ws) ∧ (T j).1 = C ∧ (Cond.fieldLink own idx C (T j).2.1 (T j).2.2.1 ∈ zk_ws ∨ Cond.fieldLinkNest own idx C (T j).2.1 (T j).2.2.1 zk_host ∈ zk_nest)
theorem zk_getv {ci j idx k n : Nat} {C : String} {T : u_T} {fs : List (Option Nat)} {x : Value} (h : zk_C v X E own cc dep) (hf : zk_fl own idx ci j C T n) (hk : k < zk_N v) (hs : zk_sh v k = .inr (.inl (ci, fs))) (hx : (zk_fv X I k 0 fs)[j]? = some x) (d : zk_D cc pc pc' (.getfield idx) 3) (kk : zk_A v X E pc' lv (x :: st) I J) : zk_A v X E pc lv (.ref (zk_ad X k) :: st) I J := by
  obtain ⟨p, e, R, s, m, args, below, meth, c, cells, slots, Q⟩ := E
  obtain ⟨d, rfl⟩ := d
  obtain ⟨f1, f2, f3, f4, f5⟩ := hf
  intro ls H locs hn hl hP hS
  have hw : (zk_w v X I J)[k]? = some (zk_ad X k, .inr (ci, zk_fv X I k 0 fs)) := by rw [zk_w_get hk, hs]; rfl
  rcases f5 with f5 | f5
  · exact va_get h.1 h.2.1 h.2.2.2.1 f3 h.2.2.1 h.2.2.2.2.1.1 hP k hw f1 j f2 (h.2.2.2.1 _ f5) (fun x hx => by rw [f4] at hx; exact hx) hx d (kk ls H locs hn hl hP hS)
  · exact va_getN h.1 h.2.1 h.2.2.2.1 f3 h.2.2.1 h.2.2.2.2.1.1 hP k hw f1 j f2 (va_Nw.use rfl (h.2.2.2.2.1.2.2.1 _ f5)) (fun x hx => by rw [f4] at hx; exact hx) hx d (kk ls H locs hn hl hP hS)
theorem zk_geti {ci j idx k n : Nat} {C : String} {T : u_T} {fs : List (Option Nat)} (h : zk_C v X E own cc dep) (hf : zk_fl own idx ci j C T n) (hk : k < zk_N v) (hs : zk_sh v k = .inr (.inl (ci, fs))) (hx : fs[j]? = some none) (d : zk_D cc pc pc' (.getfield idx) 3) (kk : zk_A v X E pc' lv (.int (I k j) :: st) I J) : zk_A v X E pc lv (.ref (zk_ad X k) :: st) I J :=
  zk_getv h hf hk hs (by rw [zk_fv_i fs 0 j hx, Nat.zero_add]) d kk
theorem zk_getr {ci j idx k n q : Nat} {C : String} {T : u_T} {fs : List (Option Nat)} (h : zk_C v X E own cc dep) (hf : zk_fl own idx ci j C T n) (hk : k < zk_N v) (hs : zk_sh v k = .inr (.inl (ci, fs))) (hx : fs[j]? = some (some q)) (d : zk_D cc pc pc' (.getfield idx) 3) (kk : zk_A v X E pc' lv (.ref (zk_ad X q) :: st) I J) : zk_A v X E pc lv (.ref (zk_ad X k) :: st) I J :=
  zk_getv h hf hk hs (zk_fv_r fs 0 j hx) d kk
/-- a field that may be written -/
abbrev zk_fp (C : String) (T : u_T) (n j : Nat) (ty0 : Nat → FieldType) : Prop := (∀ k, k < n → parseFieldDescriptor (T k).2.2.1 = some (ty0 k)) ∧ (∀ a, a < n → ∀ b, b < n → a ≠ b → (T a).2.1 ≠ (T b).2.1) ∧ (T j).2.2.2 = false
theorem zk_puti {ci j idx k n : Nat} {C : String} {T : u_T} {ty0 : Nat → FieldType} {fs : List (Option Nat)} {x : Int32} (h : zk_C v X E own cc dep) (hf : zk_fl own idx ci j C T n) (hp : zk_fp C T n j ty0) (hk : k < zk_N v) (hs : zk_sh v k = .inr (.inl (ci, fs))) (hx : fs[j]? = some none) (hnr : narrow (ty0 j) (.int x) = .int x) (hft : fits (ty0 j) (.int x) = true) (d : zk_D cc pc pc' (.putfield idx) 3) (kk : zk_A v X E pc' lv st (zk_u I k (upd (I k) j x)) J) : zk_A v X E pc lv (.int x :: .ref (zk_ad X k) :: st) I J := by
  obtain ⟨p, e, R, s, m, args, below, meth, c, cells, slots, Q⟩ := E
  obtain ⟨d, rfl⟩ := d
  obtain ⟨f1, f2, f3, f4, f5⟩ := hf
  obtain ⟨p1, p2, p3⟩ := hp
  intro ls H locs hn hl hP hS
  have hw : (zk_w v X I J)[k]? = some (zk_ad X k, .inr (ci, zk_fv X I k 0 fs)) := by rw [zk_w_get hk, hs]; rfl
  have hj : j < fs.length := (List.getElem?_eq_some_iff.mp hx).1
  have hset : (zk_w v X I J).set k (zk_ad X k, .inr (ci, (zk_fv X I k 0 fs).set j (.int x))) = zk_w v X (zk_u I k (upd (I k) j x)) J := by
    rw [zk_fv_set fs 0 j hx, Nat.zero_add]
    exact zk_w_set (x := .inr (.inl (ci, fs))) hk (fun a ha => zk_u_n ha) (fun _ _ => rfl) hs
  rcases f5 with f5 | f5
  · refine va_put h.1 h.2.1 h.2.2.2.1 f3 ty0 p1 p2 h.2.2.1 h.2.2.2.2.1.1 hP (h.2.2.2.2.1.2.2.2.2 I J) hS k hw f1 j f2 (h.2.2.2.1 _ f5) (fun x hx => by rw [f4] at hx; exact hx) p3 (p1 j f2) hnr hft (by rw [zk_fv_len]; exact hj) d (fun H1 locs1 hP1 hD1 hS1 => kk ls H1 locs1 hn hl (by rw [← hset]; exact hP1) hS1)
  · refine va_putN h.1 h.2.1 h.2.2.2.1 f3 ty0 p1 p2 h.2.2.1 h.2.2.2.2.1.1 hP (h.2.2.2.2.1.2.2.2.2 I J) hS k hw f1 j f2 (va_Nw.use rfl (h.2.2.2.2.1.2.2.1 _ f5)) (fun x hx => by rw [f4] at hx; exact hx) p3 (p1 j f2) hnr hft (by rw [zk_fv_len]; exact hj) d (fun H1 locs1 hP1 hD1 hS1 => kk ls H1 locs1 hn hl (by rw [← hset]; exact hP1) hS1)
theorem zk_iald {k n : Nat} {i : Int32} (h : zk_C v X E own cc dep) (hk : k < zk_N v) (hs : zk_sh v k = .inl (0, n)) (hi : vp_in i n) (d : zk_D cc pc pc' .iaload 1) (kk : zk_A v X E pc' lv (.int (I k i.toNatClampNeg) :: st) I J) : zk_A v X E pc lv (.int i :: .ref (zk_ad X k) :: st) I J := by
  obtain ⟨p, e, R, s, m, args, below, meth, c, cells, slots, Q⟩ := E
  obtain ⟨d, rfl⟩ := d
  intro ls H locs hn hl hP hS
  have hw : (zk_w v X I J)[k]? = some (zk_ad X k, .inl (X.2.2.2.1 0, n, .inl (I k))) := by rw [zk_w_get hk, hs]; rfl
  exact va_iald h.1 h.2.1 h.2.2.2.2.1.1 hP k 0 hw rfl hi d (kk ls H locs hn hl hP hS)
theorem zk_bald {k n : Nat} {i : Int32} (h : zk_C v X E own cc dep) (hk : k < zk_N v) (hs : zk_sh v k = .inl (1, n)) (hi : vp_in i n) (d : zk_D cc pc pc' .baload 1) (kk : zk_A v X E pc' lv (.int (I k i.toNatClampNeg) :: st) I J) : zk_A v X E pc lv (.int i :: .ref (zk_ad X k) :: st) I J := by
  obtain ⟨p, e, R, s, m, args, below, meth, c, cells, slots, Q⟩ := E
  obtain ⟨d, rfl⟩ := d
  intro ls H locs hn hl hP hS
  have hw : (zk_w v X I J)[k]? = some (zk_ad X k, .inl (X.2.2.2.1 1, n, .inl (I k))) := by rw [zk_w_get hk, hs]; rfl
  exact va_bald h.1 h.2.1 h.2.2.2.2.1.1 hP k 1 hw rfl hi d (kk ls H locs hn hl hP hS)
theorem zk_lald {k n : Nat} {i : Int32} (h : zk_C v X E own cc dep) (hk : k < zk_N v) (hs : zk_sh v k = .inl (2, n)) (hi : vp_in i n) (d : zk_D cc pc pc' .laload 1) (kk : zk_A v X E pc' lv (.long (J k i.toNatClampNeg) :: st) I J) : zk_A v X E pc lv (.int i :: .ref (zk_ad X k) :: st) I J := by
  obtain ⟨p, e, R, s, m, args, below, meth, c, cells, slots, Q⟩ := E
  obtain ⟨d, rfl⟩ := d
  intro ls H locs hn hl hP hS
  have hw : (zk_w v X I J)[k]? = some (zk_ad X k, .inl (X.2.2.2.1 2, n, .inr (.inl (J k)))) := by rw [zk_w_get hk, hs]; rfl
  exact va_lald h.1 h.2.1 h.2.2.2.2.1.1 hP k 2 hw rfl hi d (kk ls H locs hn hl hP hS)
theorem zk_iast {k n : Nat} {i x : Int32} (h : zk_C v X E own cc dep) (hk : k < zk_N v) (hs : zk_sh v k = .inl (0, n)) (hi : vp_in i n) (d : zk_D cc pc pc' .iastore 1) (kk : zk_A v X E pc' lv st (zk_u I k (upd (I k) i.toNatClampNeg x)) J) : zk_A v X E pc lv (.int x :: .int i :: .ref (zk_ad X k) :: st) I J := by
  obtain ⟨p, e, R, s, m, args, below, meth, c, cells, slots, Q⟩ := E
  obtain ⟨d, rfl⟩ := d
  intro ls H locs hn hl hP hS
  have hw : (zk_w v X I J)[k]? = some (zk_ad X k, .inl (X.2.2.2.1 0, n, .inl (I k))) := by rw [zk_w_get hk, hs]; rfl
  have hset : (zk_w v X I J).set k (zk_ad X k, .inl (X.2.2.2.1 0, n, .inl (upd (I k) i.toNatClampNeg x))) = zk_w v X (zk_u I k (upd (I k) i.toNatClampNeg x)) J := by
    have := zk_w_set (v := v) (X := X) (I := I) (I' := zk_u I k (upd (I k) i.toNatClampNeg x)) (J := J) (J' := J) (x := .inl (0, n)) hk (fun a ha => zk_u_n ha) (fun _ _ => rfl) hs
    simpa only [zk_e, zk_u_s] using this
  exact va_iast h.1 h.2.1 h.2.2.2.2.1.1 hP (h.2.2.2.2.1.2.2.2.2 I J) hS k 0 hw rfl hi d (fun H1 locs1 hP1 hD1 hS1 => kk ls H1 locs1 hn hl (by rw [← hset]; exact hP1) hS1)
theorem zk_bast {k n : Nat} {i x : Int32} (h : zk_C v X E own cc dep) (hk : k < zk_N v) (hs : zk_sh v k = .inl (1, n)) (hi : vp_in i n) (d : zk_D cc pc pc' .bastore 1) (kk : zk_A v X E pc' lv st (zk_u I k (upd (I k) i.toNatClampNeg x.toInt8.toInt32)) J) : zk_A v X E pc lv (.int x :: .int i :: .ref (zk_ad X k) :: st) I J := by
  obtain ⟨p, e, R, s, m, args, below, meth, c, cells, slots, Q⟩ := E
  obtain ⟨d, rfl⟩ := d
  intro ls H locs hn hl hP hS
  have hw : (zk_w v X I J)[k]? = some (zk_ad X k, .inl (X.2.2.2.1 1, n, .inl (I k))) := by rw [zk_w_get hk, hs]; rfl
  have hset : (zk_w v X I J).set k (zk_ad X k, .inl (X.2.2.2.1 1, n, .inl (upd (I k) i.toNatClampNeg (vp_nar .byte x)))) = zk_w v X (zk_u I k (upd (I k) i.toNatClampNeg x.toInt8.toInt32)) J := by
    have := zk_w_set (v := v) (X := X) (I := I) (I' := zk_u I k (upd (I k) i.toNatClampNeg x.toInt8.toInt32)) (J := J) (J' := J) (x := .inl (1, n)) hk (fun a ha => zk_u_n ha) (fun _ _ => rfl) hs
    rw [vp_nar_byte]
    simpa only [zk_e, zk_u_s] using this
  exact va_bast h.1 h.2.1 h.2.2.2.2.1.1 hP (h.2.2.2.2.1.2.2.2.2 I J) hS k 1 hw rfl hi d (fun H1 locs1 hP1 hD1 hS1 => kk ls H1 locs1 hn hl (by rw [← hset]; exact hP1) hS1)
theorem zk_last {k n : Nat} {i : Int32} {x : Int64} (h : zk_C v X E own cc dep) (hk : k < zk_N v) (hs : zk_sh v k = .inl (2, n)) (hi : vp_in i n) (d : zk_D cc pc pc' .lastore 1) (kk : zk_A v X E pc' lv st I (zk_u J k (vp_updL (J k) i.toNatClampNeg x))) : zk_A v X E pc lv (.long x :: .int i :: .ref (zk_ad X k) :: st) I J := by
  obtain ⟨p, e, R, s, m, args, below, meth, c, cells, slots, Q⟩ := E
  obtain ⟨d, rfl⟩ := d
  intro ls H locs hn hl hP hS
  have hw : (zk_w v X I J)[k]? = some (zk_ad X k, .inl (X.2.2.2.1 2, n, .inr (.inl (J k)))) := by rw [zk_w_get hk, hs]; rfl
  have hset : (zk_w v X I J).set k (zk_ad X k, .inl (X.2.2.2.1 2, n, .inr (.inl (vp_updL (J k) i.toNatClampNeg x)))) = zk_w v X I (zk_u J k (vp_updL (J k) i.toNatClampNeg x)) := by
    have := zk_w_set (v := v) (X := X) (I := I) (I' := I) (J := J) (J' := zk_u J k (vp_updL (J k) i.toNatClampNeg x)) (x := .inl (2, n)) hk (fun _ _ => rfl) (fun a ha => zk_u_n ha) hs
    simpa only [zk_e, zk_u_s] using this
  exact va_last h.1 h.2.1 h.2.2.2.2.1.1 hP (h.2.2.2.2.1.2.2.2.2 I J) hS k 2 hw rfl hi d (fun H1 locs1 hP1 hD1 hS1 => kk ls H1 locs1 hn hl (by rw [← hset]; exact hP1) hS1)
theorem zk_aald {k n t p0 : Nat} {ty : FieldType} {i : Int32} (h : zk_C v X E own cc dep) (hk : k < zk_N v) (hs : zk_sh v k = .inr (.inr (t, n, p0))) (ht : (zk_tys X)[t]? = some (X.2.2.2.1 t, ty)) (hr : ty.isReference = true) (hi : vp_in i n) (d : zk_D cc pc pc' .aaload 1) (kk : zk_A v X E pc' lv (.ref (zk_ad X (p0 + i.toNatClampNeg)) :: st) I J) : zk_A v X E pc lv (.int i :: .ref (zk_ad X k) :: st) I J := by
  obtain ⟨p, e, R, s, m, args, below, meth, c, cells, slots, Q⟩ := E
  obtain ⟨d, rfl⟩ := d
  intro ls H locs hn hl hP hS
  have hw : (zk_w v X I J)[k]? = some (zk_ad X k, .inl (X.2.2.2.1 t, n, .inr (.inr (.inr (.inr fun i => some (zk_ad X (p0 + i))))))) := by rw [zk_w_get hk, hs]; rfl
  have hlt : i.toNatClampNeg < n := Nat.not_le.mp fun q => hi (Or.inr q)
  exact W.aald (v := .ref (zk_ad X (p0 + i.toNatClampNeg))) (ty := ty) h.1 h.2.1 (hP k _ hw) ((h.2.2.2.2.1.1.2 t _ ht).1 n (fun j => va_rf (some (zk_ad X (p0 + j))))) hr (fun q => by cases q) (by show ¬ (i < 0 ∨ (arrV _ _ _).slots.size ≤ _); rw [arrV_size]; exact hi) (by show (arrV _ _ _).slots[_]? = _; rw [arrV_read _ _ hlt]; rfl) rfl rfl d (kk ls H locs hn hl hP hS)
theorem zk_alen {k n t : Nat} (h : zk_C v X E own cc dep) (hk : k < zk_N v) (hs : zk_sh v k = .inl (t, n)) (ht : t < 3) (d : zk_D cc pc pc' .arraylength 1) (kk : zk_A v X E pc' lv (.int (nI n) :: st) I J) : zk_A v X E pc lv (.ref (zk_ad X k) :: st) I J := by
  obtain ⟨p, e, R, s, m, args, below, meth, c, cells, slots, Q⟩ := E
  obtain ⟨d, rfl⟩ := d
  intro ls H locs hn hl hP hS
  have hw := zk_w_get (v := v) (X := X) (I := I) (J := J) hk
  rw [hs] at hw
  match t, ht with
  | 0, _ => exact W.alen (n := nI n) h.1 h.2.1 (hP k _ hw) ((h.2.2.2.2.1.1.2 0 _ rfl).1 n (fun j => .int (I k j))) (by show (arrV _ _ _).slots.size.toInt32 = _; rw [arrV_size]; rfl) rfl rfl d (kk ls H locs hn hl hP hS)
  | 1, _ => exact W.alen (n := nI n) h.1 h.2.1 (hP k _ hw) ((h.2.2.2.2.1.1.2 1 _ rfl).1 n (fun j => .int (I k j))) (by show (arrV _ _ _).slots.size.toInt32 = _; rw [arrV_size]; rfl) rfl rfl d (kk ls H locs hn hl hP hS)
  | 2, _ => exact W.alen (n := nI n) h.1 h.2.1 (hP k _ hw) ((h.2.2.2.2.1.1.2 2 _ rfl).1 n (fun j => .long (J k j))) (by show (arrV _ _ _).slots.size.toInt32 = _; rw [arrV_size]; rfl) rfl rfl d (kk ls H locs hn hl hP hS)
/-- static arrays -/
theorem zk_gets {idx j : Nat} {q : String × String × String × FieldType × Nat × (Nat → Value)} (h : zk_C v X E own cc dep) (hq : zk_stats[j]? = some q) (hlk : Cond.fieldLink own idx q.1 q.2.1 q.2.2.1 ∈ zk_ws ∨ Cond.fieldLinkNest own idx q.1 q.2.1 q.2.2.1 zk_host ∈ zk_nest) (d : zk_D cc pc pc' (.getstatic idx) 3) (kk : zk_A v X E pc' lv (.ref (zk_sa X j) :: st) I J) : zk_A v X E pc lv st I J := by
  obtain ⟨p, e, R, s, m, args, below, meth, c, cells, slots, Q⟩ := E
  obtain ⟨d, rfl⟩ := d
  intro ls H locs hn hl hP hS
  rcases hlk with hlk | hlk
  · exact va_gets h.1 h.2.1 (h.2.2.2.2.1.2.1 j q hq).1 hS h.2.2.1 (h.2.2.2.1 _ hlk) (fun _ h9 => h9) d (kk ls H locs hn hl hP hS)
  · exact va_getsN h.1 h.2.1 (h.2.2.2.2.1.2.1 j q hq).1 hS h.2.2.1 (va_Nw.use rfl (h.2.2.2.2.1.2.2.1 _ hlk)) (fun _ h9 => h9) d (kk ls H locs hn hl hP hS)
theorem zk_ti {j n : Nat} {C nm ds : String} {f : Nat → Value} {i : Int32} {x : Value} (h : zk_C v X E own cc dep) (hq : zk_stats[j]? = some (C, nm, ds, .int, n, f)) (hi : vp_in i n) (hx : f i.toNatClampNeg = x) (d : zk_D cc pc pc' .iaload 1) (kk : zk_A v X E pc' lv (x :: st) I J) : zk_A v X E pc lv (.int i :: .ref (zk_sa X j) :: st) I J := by
  obtain ⟨p, e, R, s, m, args, below, meth, c, cells, slots, Q⟩ := E
  obtain ⟨d, rfl⟩ := d
  intro ls H locs hn hl hP hS
  exact va_ti h.1 h.2.1 (h.2.2.2.2.1.2.1 j _ hq).2 hS hi hx d (kk ls H locs hn hl hP hS)
theorem zk_tl {j n : Nat} {C nm ds : String} {f : Nat → Value} {i : Int32} {x : Value} (h : zk_C v X E own cc dep) (hq : zk_stats[j]? = some (C, nm, ds, .long, n, f)) (hi : vp_in i n) (hx : f i.toNatClampNeg = x) (d : zk_D cc pc pc' .laload 1) (kk : zk_A v X E pc' lv (x :: st) I J) : zk_A v X E pc lv (.int i :: .ref (zk_sa X j) :: st) I J := by
  obtain ⟨p, e, R, s, m, args, below, meth, c, cells, slots, Q⟩ := E
  obtain ⟨d, rfl⟩ := d
  intro ls H locs hn hl hP hS
  exact va_tl h.1 h.2.1 (h.2.2.2.2.1.2.1 j _ hq).2 hS hi hx d (kk ls H locs hn hl hP hS)
/-- calls -/
theorem zk_run {r : Option Value} {a : Array Value} {p : Program} {e : Env} {R : Room} {s : State} {m : MethodId} {args : Array Value} {below : List Frame} {meth : Method} {c : Code} {cells slots : Nat} {Q : State → Prop} {ls : Array Slot} {H : Heap} {locs : List Loc} {st0 rest : List Value}
    (hr : va_Run p X.1 e R s m args below meth c H locs cells slots 0 0 (F0 m pc ls st0) rest (zk_Q v X r I' J' a) (fun q => X.2.1 ≤ q)) (hS : va_S (fun q => X.2.1 ≤ q) s.heap H locs)
    (kk : ∀ (H1 : Heap) (locs1 : List Loc), va_P X.2.2.1 zk_cl (zk_w v X I' J') H1 → va_S (fun q => X.2.1 ≤ q) s.heap H1 locs1 → W p X.1 e R s m args below meth c H1 locs1 cells slots Q (F0 m (pc + 3) ls (r.toList ++ rest))) : W p X.1 e R s m args below meth c H locs cells slots Q (F0 m pc ls st0) := by
  intro T hT Y
  obtain ⟨x, st₀, t, T', L, h0, X', hL, e1, e2, ⟨hv, hP, hz, hk⟩, go⟩ := hr T hT Y
  cases hv
  rw [h0] at hz hk
  obtain ⟨t2, a1, b1⟩ := kk T'.heap (locs ++ L) (by rw [e1]; exact hP) ⟨Nat.le_trans hS.1 (by rw [e1]; exact hz), fun q h1 h2 => by rw [e1, hk q (Nat.lt_of_lt_of_le h1 hS.1) h2]; exact hS.2.1 q h1 h2, fun q hq => by
      rcases List.mem_append.mp hq with h | h
      · exact hS.2.2 q h
      · exact hL q h⟩ T' rfl X'
  exact ⟨t2, go t2 a1, b1⟩
abbrev zk_ml (own : String) (idx : Nat) (y : MethodName) : Prop := Cond.methodLink own idx y ∈ zk_ws ∨ Cond.methodLinkNest own idx y zk_host ∈ zk_nest
/-- what a method is: an instance's, a static one -/
abbrev zk_mi (y : MethodName) (b : ByteArray) (maxL : Nat) (ret : Option FieldType) (n : Nat) : Prop := Cond.instanceMethod y ∈ zk_ws ∧ Cond.selects y.cls y y ∈ zk_ws ∧ Cond.initialized y.cls ∈ zk_ws ∧ Cond.code y b maxL ret ∈ zk_ws ∧ (y.cls ≠ "java/lang/invoke/MethodHandle" ∧ y.cls ≠ "java/lang/invoke/VarHandle" ∧ (parseMethodDescriptor y.desc).map (fun d => d.parameters.length) = some n)
abbrev zk_ms (y : MethodName) (b : ByteArray) (maxL : Nat) (ret : Option FieldType) (n : Nat) : Prop := Cond.static y ∈ zk_ws ∧ Cond.initialized y.cls ∈ zk_ws ∧ Cond.code y b maxL ret ∈ zk_ws ∧ (y.cls ≠ "java/lang/invoke/MethodHandle" ∧ y.cls ≠ "java/lang/invoke/VarHandle" ∧ (parseMethodDescriptor y.desc).map (fun d => d.parameters.length) = some n)
theorem zk_callV {idx k ci n maxL : Nat} {dy : Nat × Nat} {y : MethodName} {b : ByteArray} {ret : Option FieldType} {fs : List (Option Nat)} {as rest : List Value} {r : Option Value} (h : zk_C v X E own cc dep) (hl : zk_ml own idx y) (hi : zk_mi y b maxL ret n) (hM : zk_M v X y b maxL ret dy (.ref (zk_ad X k) :: as) I J r I' J') (hd : dy.1 + 1 ≤ dep.1 ∧ 8 + (maxL + 11) + dy.2 ≤ dep.2) (hk : k < zk_N v) (hs : zk_sh v k = .inr (.inl (ci, fs))) (hc : (zk_cl[ci]?).map (fun q => q.1) = some y.cls) (hn : as.length = n) (hst : st = as.reverse ++ .ref (zk_ad X k) :: rest) (hcat : (rest.map fun v => v.category).sum ≤ 8) (d : zk_D cc pc pc' (.invokevirtual idx) 3) (kk : zk_A v X E pc' lv (r.toList ++ rest) I' J') : zk_A v X E pc lv st I J := by
  obtain ⟨p, e, R, s, m, args, below, meth, c, cells, slots, Q⟩ := E
  obtain ⟨d, rfl⟩ := d
  subst hst
  obtain ⟨i1, i2, i3, i4, i5⟩ := hi
  obtain ⟨c1, c2, c3, c4, c5, c6, c7, c8, c9⟩ := h
  intro ls H locs hnl hll hP hS
  have hw : (zk_w v X I J)[k]? = some (zk_ad X k, .inr (ci, zk_fv X I k 0 fs)) := by rw [zk_w_get hk, hs]; rfl
  have hR : (zk_rm dy).frames + 1 ≤ R.frames ∧ 8 + (maxL + 11) + (zk_rm dy).locals ≤ R.locals := by
    exact ⟨Nat.le_trans hd.1 c6, Nat.le_trans hd.2 c7⟩
  have hp : PreV s H y.cls (zk_ad X k) (va_Pc (.ref (zk_ad X k) :: as) (fun U => zk_G v X U ∧ va_P X.2.2.1 zk_cl (zk_w v X I J) U.heap)) as := by
    refine ⟨fun a U g mk q => ⟨q.1, q.2.1.blind, q.2.2⟩, ?_, fun U hU hW => ⟨rfl, c5.go hU hS hW, by rw [hU]; exact hP⟩⟩
    cases hq : zk_cl[ci]? with
    | none => rw [hq] at hc; cases hc
    | some q =>
      rw [hq] at hc
      have := va_recv c5.1 hP hq hw
      rw [show q.1 = y.cls from Option.some.inj hc] at this
      exact this
  rcases hl with hl | hl
  · refine zk_run (va_runV (cc := cc) (nL := c.maxLocals) (Ts := zk_ws) ⟨c1, c2, rfl, c3, c4⟩ hM ⟨callB_of n c4 (zk_goodIn i4) rfl rfl rfl (c4 _ i3) (c4 _ hl) i5 hR, c4 _ i1, c4 _ i2⟩ hp rfl hn hll.1 rfl (lv_room hcat) d ⟨c8, c9⟩) hS (fun H1 locs1 hP1 hS1 => kk ls H1 locs1 hnl hll hP1 hS1)
  · refine zk_run (va_runVN (cc := cc) (nL := c.maxLocals) (Ts := zk_ws) ⟨c1, c2, rfl, c3, c4⟩ hM ⟨va_cnB n c4 (zk_goodIn i4) rfl rfl rfl (c5.2.2.1 _ hl) (c4 _ i3) i5 hR, c4 _ i1, c4 _ i2⟩ hp rfl hn hll.1 rfl (lv_room hcat) d ⟨c8, c9⟩) hS (fun H1 locs1 hP1 hS1 => kk ls H1 locs1 hnl hll hP1 hS1)
theorem zk_callS {idx n maxL : Nat} {dy : Nat × Nat} {y : MethodName} {b : ByteArray} {ret : Option FieldType} {as rest : List Value} {r : Option Value} (h : zk_C v X E own cc dep) (hl : zk_ml own idx y) (hi : zk_ms y b maxL ret n) (hM : zk_M v X y b maxL ret dy as I J r I' J') (hd : dy.1 + 1 ≤ dep.1 ∧ 8 + (maxL + 11) + dy.2 ≤ dep.2) (hn : as.length = n) (hst : st = as.reverse ++ rest) (hcat : (rest.map fun v => v.category).sum ≤ 8) (d : zk_D cc pc pc' (.invokestatic idx) 3) (kk : zk_A v X E pc' lv (r.toList ++ rest) I' J') : zk_A v X E pc lv st I J := by
  obtain ⟨p, e, R, s, m, args, below, meth, c, cells, slots, Q⟩ := E
  obtain ⟨d, rfl⟩ := d
  subst hst
  obtain ⟨i1, i3, i4, i5⟩ := hi
  obtain ⟨c1, c2, c3, c4, c5, c6, c7, c8, c9⟩ := h
  intro ls H locs hnl hll hP hS
  have hR : (zk_rm dy).frames + 1 ≤ R.frames ∧ 8 + (maxL + 11) + (zk_rm dy).locals ≤ R.locals := by
    exact ⟨Nat.le_trans hd.1 c6, Nat.le_trans hd.2 c7⟩
  have hp : PreS s H (va_Pc as (fun U => zk_G v X U ∧ va_P X.2.2.1 zk_cl (zk_w v X I J) U.heap)) as :=
    ⟨fun a U g mk q => ⟨q.1, q.2.1.blind, q.2.2⟩, fun U hU hW => ⟨rfl, c5.go hU hS hW, by rw [hU]; exact hP⟩⟩
  rcases hl with hl | hl
  · refine zk_run (va_runS (cc := cc) (nL := c.maxLocals) (Ts := zk_ws) ⟨c1, c2, rfl, c3, c4⟩ hM ⟨callB_of n c4 (zk_goodIn i4) rfl rfl rfl (c4 _ i3) (c4 _ hl) i5 hR, c4 _ i1⟩ hp rfl hn hll.1 rfl (lv_room hcat) d ⟨c8, c9⟩) hS (fun H1 locs1 hP1 hS1 => kk ls H1 locs1 hnl hll hP1 hS1)
  · refine zk_run (va_runSN (cc := cc) (nL := c.maxLocals) (Ts := zk_ws) ⟨c1, c2, rfl, c3, c4⟩ hM ⟨va_cnB n c4 (zk_goodIn i4) rfl rfl rfl (c5.2.2.1 _ hl) (c4 _ i3) i5 hR, c4 _ i1, trivial⟩ hp rfl hn hll.1 rfl (lv_room hcat) d ⟨c8, c9⟩) hS (fun H1 locs1 hP1 hS1 => kk ls H1 locs1 hnl hll hP1 hS1)
theorem zk_callS0 {idx n maxL : Nat} {dy : Nat × Nat} {y : MethodName} {b : ByteArray} {ret : Option FieldType} {as rest : List Value} (h : zk_C v X E own cc dep) (hl : zk_ml own idx y) (hi : zk_ms y b maxL ret n) (hM : zk_M v X y b maxL ret dy as I J none I' J') (hd : dy.1 + 1 ≤ dep.1 ∧ 8 + (maxL + 11) + dy.2 ≤ dep.2) (hn : as.length = n) (hst : st = as.reverse ++ rest) (hcat : (rest.map fun v => v.category).sum ≤ 8) (d : zk_D cc pc pc' (.invokestatic idx) 3) (kk : zk_A v X E pc' lv rest I' J') : zk_A v X E pc lv st I J := zk_callS h hl hi hM hd hn hst hcat d kk
theorem zk_callS1 {idx n maxL : Nat} {dy : Nat × Nat} {y : MethodName} {b : ByteArray} {ret : Option FieldType} {as rest : List Value} {x : Value} (h : zk_C v X E own cc dep) (hl : zk_ml own idx y) (hi : zk_ms y b maxL ret n) (hM : zk_M v X y b maxL ret dy as I J (some x) I' J') (hd : dy.1 + 1 ≤ dep.1 ∧ 8 + (maxL + 11) + dy.2 ≤ dep.2) (hn : as.length = n) (hst : st = as.reverse ++ rest) (hcat : (rest.map fun v => v.category).sum ≤ 8) (d : zk_D cc pc pc' (.invokestatic idx) 3) (kk : zk_A v X E pc' lv (x :: rest) I' J') : zk_A v X E pc lv st I J := zk_callS h hl hi hM hd hn hst hcat d kk
theorem zk_callV0 {idx k ci n maxL : Nat} {dy : Nat × Nat} {y : MethodName} {b : ByteArray} {ret : Option FieldType} {fs : List (Option Nat)} {as rest : List Value} (h : zk_C v X E own cc dep) (hl : zk_ml own idx y) (hi : zk_mi y b maxL ret n) (hM : zk_M v X y b maxL ret dy (.ref (zk_ad X k) :: as) I J none I' J') (hd : dy.1 + 1 ≤ dep.1 ∧ 8 + (maxL + 11) + dy.2 ≤ dep.2) (hk : k < zk_N v) (hs : zk_sh v k = .inr (.inl (ci, fs))) (hc : (zk_cl[ci]?).map (fun q => q.1) = some y.cls) (hn : as.length = n) (hst : st = as.reverse ++ .ref (zk_ad X k) :: rest) (hcat : (rest.map fun v => v.category).sum ≤ 8) (d : zk_D cc pc pc' (.invokevirtual idx) 3) (kk : zk_A v X E pc' lv rest I' J') : zk_A v X E pc lv st I J := zk_callV h hl hi hM hd hk hs hc hn hst hcat d kk
theorem zk_callV1 {idx k ci n maxL : Nat} {dy : Nat × Nat} {y : MethodName} {b : ByteArray} {ret : Option FieldType} {fs : List (Option Nat)} {as rest : List Value} {x : Value} (h : zk_C v X E own cc dep) (hl : zk_ml own idx y) (hi : zk_mi y b maxL ret n) (hM : zk_M v X y b maxL ret dy (.ref (zk_ad X k) :: as) I J (some x) I' J') (hd : dy.1 + 1 ≤ dep.1 ∧ 8 + (maxL + 11) + dy.2 ≤ dep.2) (hk : k < zk_N v) (hs : zk_sh v k = .inr (.inl (ci, fs))) (hc : (zk_cl[ci]?).map (fun q => q.1) = some y.cls) (hn : as.length = n) (hst : st = as.reverse ++ .ref (zk_ad X k) :: rest) (hcat : (rest.map fun v => v.category).sum ≤ 8) (d : zk_D cc pc pc' (.invokevirtual idx) 3) (kk : zk_A v X E pc' lv (x :: rest) I' J') : zk_A v X E pc lv st I J := zk_callV h hl hi hM hd hk hs hc hn hst hcat d kk
/-- returns -/
theorem zk_iret {x : Int32} {r : Option Value} (h : zk_C v X E own cc dep) (hq : zk_R v X E (some .int) r I' J') (hr : r = some (.int x)) (hI : I' = I) (hJ : J' = J) (d : zk_D cc pc pc' .ireturn 1) : zk_A v X E pc lv [.int x] I J := by
  obtain ⟨p, e, R, s, m, args, below, meth, c, cells, slots, Q⟩ := E
  obtain ⟨rfl, rfl, rfl, hrt, hlk⟩ := hq
  subst hr; subst hI; subst hJ
  intro ls H locs hn hl hP hS
  exact W.iret h.1 h.2.1 hrt (fun t ht hW => ⟨rfl, by rw [ht]; exact hP, hS.F ht⟩) hS.2.2 d.1 hlk
theorem zk_zret {x : Int32} {r : Option Value} (h : zk_C v X E own cc dep) (hq : zk_R v X E (some .boolean) r I' J') (hr : r = some (.int x)) (hn : narrow .boolean (.int x) = .int x) (hI : I' = I) (hJ : J' = J) (d : zk_D cc pc pc' .ireturn 1) : zk_A v X E pc lv [.int x] I J := by
  obtain ⟨p, e, R, s, m, args, below, meth, c, cells, slots, Q⟩ := E
  obtain ⟨rfl, rfl, rfl, hrt, hlk⟩ := hq
  subst hr; subst hI; subst hJ
  intro ls H locs hn' hl hP hS
  exact W.zret h.1 h.2.1 hrt hn (fun t ht hW => ⟨rfl, by rw [ht]; exact hP, hS.F ht⟩) hS.2.2 d.1 hlk
theorem zk_lret {x : Int64} {r : Option Value} (h : zk_C v X E own cc dep) (hq : zk_R v X E (some .long) r I' J') (hr : r = some (.long x)) (hI : I' = I) (hJ : J' = J) (d : zk_D cc pc pc' .lreturn 1) : zk_A v X E pc lv [.long x] I J := by
  obtain ⟨p, e, R, s, m, args, below, meth, c, cells, slots, Q⟩ := E
  obtain ⟨rfl, rfl, rfl, hrt, hlk⟩ := hq
  subst hr; subst hI; subst hJ
  intro ls H locs hn hl hP hS
  exact W.lret h.1 h.2.1 hrt (fun t ht hW => ⟨rfl, by rw [ht]; exact hP, hS.F ht⟩) hS.2.2 d.1 hlk
theorem zk_aret {x : Nat} {rt : FieldType} {r : Option Value} (h : zk_C v X E own cc dep) (hq : zk_R v X E (some rt) r I' J') (hrt : (∃ n, rt = .object n) ∨ ∃ t, rt = .array t) (hr : r = some (.ref x)) (hI : I' = I) (hJ : J' = J) (d : zk_D cc pc pc' .areturn 1) : zk_A v X E pc lv [.ref x] I J := by
  obtain ⟨p, e, R, s, m, args, below, meth, c, cells, slots, Q⟩ := E
  obtain ⟨rfl, rfl, rfl, hrt2, hlk⟩ := hq
  subst hr; subst hI; subst hJ
  intro ls H locs hn hl hP hS
  exact W.aret h.1 h.2.1 hrt2 hrt (Or.inr ⟨_, rfl⟩) (fun t ht hW => ⟨rfl, by rw [ht]; exact hP, hS.F ht⟩) hS.2.2 d.1 hlk
theorem zk_vret {r : Option Value} (h : zk_C v X E own cc dep) (hq : zk_R v X E none r I' J') (hr : r = none) (hI : I' = I) (hJ : J' = J) (d : zk_D cc pc pc' .return_ 1) : zk_A v X E pc lv [] I J := by
  obtain ⟨p, e, R, s, m, args, below, meth, c, cells, slots, Q⟩ := E
  obtain ⟨rfl, rfl, rfl, hrt, hlk⟩ := hq
  subst hr; subst hI; subst hJ
  intro ls H locs hn hl hP hS
  exact W.vret h.1 h.2.1 hrt (fun t ht hW => ⟨rfl, by rw [ht]; exact hP, hS.F ht⟩) hS.2.2 d.1 hlk
/-- Math.min, Math.max -/
theorem zk_mmin {idx : Nat} {x y : Int32} (h : zk_C v X E own cc dep) (hd : 1 ≤ dep.1 ∧ 21 ≤ dep.2) (h1 : Cond.methodLink own idx Lib.Math.min.name ∈ zk_ws) (h2 : Cond.static Lib.Math.min.name ∈ zk_ws ∧ Cond.initialized "java/lang/Math" ∈ zk_ws ∧ Cond.code Lib.Math.min.name Lib.Math.min.code 2 (some .int) ∈ zk_ws) (hcat : (st.map fun v => v.category).sum ≤ 8) (d : zk_D cc pc pc' (.invokestatic idx) 3) (kk : zk_A v X E pc' lv (.int (if y < x then y else x) :: st) I J) : zk_A v X E pc lv (.int y :: .int x :: st) I J := by
  obtain ⟨p, e, R, s, m, args, below, meth, c, cells, slots, Q⟩ := E
  obtain ⟨d, rfl⟩ := d
  obtain ⟨c1, c2, c3, c4, c5, c6, c7, c8, c9⟩ := h
  intro ls H locs hn hl hP hS
  exact va_mmin c1 c2 hl.1.symm c3 (c4 _ h1) (c4 _ h2.1) (c4 _ h2.2.1) (c4 _ h2.2.2) (by omega) (by omega) c8 c9 d (kk ls H locs hn hl hP hS)
theorem zk_mmax {idx : Nat} {x y : Int32} (h : zk_C v X E own cc dep) (hd : 1 ≤ dep.1 ∧ 21 ≤ dep.2) (h1 : Cond.methodLink own idx Lib.Math.max.name ∈ zk_ws) (h2 : Cond.static Lib.Math.max.name ∈ zk_ws ∧ Cond.initialized "java/lang/Math" ∈ zk_ws ∧ Cond.code Lib.Math.max.name Lib.Math.max.code 2 (some .int) ∈ zk_ws) (hcat : (st.map fun v => v.category).sum ≤ 8) (d : zk_D cc pc pc' (.invokestatic idx) 3) (kk : zk_A v X E pc' lv (.int (if x < y then y else x) :: st) I J) : zk_A v X E pc lv (.int y :: .int x :: st) I J := by
  obtain ⟨p, e, R, s, m, args, below, meth, c, cells, slots, Q⟩ := E
  obtain ⟨d, rfl⟩ := d
  obtain ⟨c1, c2, c3, c4, c5, c6, c7, c8, c9⟩ := h
  intro ls H locs hn hl hP hS
  exact va_mmax c1 c2 hl.1.symm c3 (c4 _ h1) (c4 _ h2.1) (c4 _ h2.2.1) (c4 _ h2.2.2) (by omega) (by omega) c8 c9 d (kk ls H locs hn hl hP hS)
end ZK
