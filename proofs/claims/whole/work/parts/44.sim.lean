/-! SIMULATION: the class's state and the reference's -/
def sm_R (I Ir : zk_I) : Prop := ∀ r, r < 8 → ∃ c, c ≤ 200 ∧ I (2 + r) 1 = nI c ∧ Ir 1 r = nI c ∧ qx_e (c, I (10 + r)) c (fun i => Ir 2 (200 * r + i))
def sm_N (I Ir : zk_I) : Prop := ∃ (g0 gr : Nat → Int32) (th sz bg kd ln ps tg sb dn pa sl la : Nat), I 30 = fl_g g0 kd ln ps tg (4 * sb) sb dn pa sl la ∧ Ir 0 = md_g gr th 0 sz bg kd ln ps tg sb dn ∧ ((bg = 0 ∧ kd = 0 ∧ ln = 0 ∧ ps = 0 ∧ tg = 0 ∧ sb = 0 ∧ dn = 0) ∨ (bg = 1 ∧ fl_is kd ln ps tg (4 * sb) sb ∧ 4 ≤ tg ∧ dn ≤ ps * 4 * ln))
def Sim (I : zk_I) (J : zk_J) (Ir : zk_I) (Jr : zk_J) : Prop := sm_R I Ir ∧ sm_N I Ir ∧ qs_R J (md_of Jr) ∧ I 18 1 = nI 0
/-- an answer's kind -/
def sm_k (ret : Option FieldType) (x : Value) : Bool := match ret, x with
  | some .int, .int _ => true
  | some .long, .long _ => true
  | _, _ => false
theorem sm_kI {x : Value} (h : sm_k (some .int) x = true) : ∃ y, x = .int y := by
  cases x <;> first | exact ⟨_, rfl⟩ | cases h
theorem sm_kL {x : Value} (h : sm_k (some .long) x = true) : ∃ y, x = .long y := by
  cases x <;> first | exact ⟨_, rfl⟩ | cases h
/-- a call: both answer alike, and the states stay alike -/
def sm_op (yc : MethodName) (bc : ByteArray) (mc : Nat) (dc : Nat × Nat) (yr : MethodName) (br : ByteArray) (mr : Nat) (dr : Nat × Nat) (ret : Option FieldType) (as : List Value) (I : zk_I) (J : zk_J) (Ir : zk_I) (Jr : zk_J) : Prop :=
  ∃ (x : Value) (I' : zk_I) (J' : zk_J) (Ir' : zk_I) (Jr' : zk_J), (∀ X, zk_M 0 X yc bc mc ret dc (.ref (zk_ad X 0) :: as) I J (some x) I' J') ∧ (∀ X, zk_M 1 X yr br mr ret dr (.ref (zk_ad X 0) :: as) Ir Jr (some x) Ir' Jr') ∧ sm_k ret x = true ∧ Sim I' J' Ir' Jr'
section SM
variable {I : zk_I} {J : zk_J} {Ir : zk_I} {Jr : zk_J}
theorem sm_R_of {I' Ir' : zk_I} (h : sm_R I Ir) (h1 : ∀ a, 2 ≤ a → a ≤ 17 → I' a = I a) (h2 : Ir' 1 = Ir 1) (h3 : Ir' 2 = Ir 2) : sm_R I' Ir' := fun r hr => by
  obtain ⟨c, k1, k2, k3, k4⟩ := h r hr
  refine ⟨c, k1, ?_, ?_, ?_⟩
  · rw [h1 _ (by omega) (by omega)]; exact k2
  · rw [h2]; exact k3
  · rw [h1 _ (by omega) (by omega), h3]; exact k4
theorem sm_N_of {I' Ir' : zk_I} (h : sm_N I Ir) (h1 : I' 30 = I 30) (h2 : Ir' 0 = Ir 0) : sm_N I' Ir' := by
  unfold sm_N
  rw [h1, h2]
  exact h
theorem sm_0 (h : Sim I J Ir Jr) : Sim I J (md_0 Ir) Jr := by
  obtain ⟨h1, ⟨g0, gr, th, sz, bg, kd, ln, ps, tg, sb, dn, pa, sl, la, n1, n2, n3⟩, h3, h4⟩ := h
  exact ⟨sm_R_of h1 (fun _ _ _ => rfl) (md_0_o (by decide)) (md_0_o (by decide)), ⟨g0, gr, 0, sz, bg, kd, ln, ps, tg, sb, dn, pa, sl, la, n1, md_0_g n2, n3⟩, h3, h4⟩
theorem sm_rng {x : Int32} {a b : Nat} (h1 : ¬ x < nI a) (h2 : ¬ nI b < x) (ha : a < 2 ^ 31) (hb : b < 2 ^ 31) : ∃ n, a ≤ n ∧ n ≤ b ∧ x = nI n := by
  have h0 : ¬ x < 0 := fun z => h1 (Int32.lt_of_lt_of_le z (nI_pos' ha))
  obtain ⟨n, hn, rfl⟩ := nI_of h0
  exact ⟨n, Nat.not_lt.mp (fun z => h1 ((nI_ltI hn ha).mpr z)), Nat.not_lt.mp (fun z => h2 ((nI_ltI hb hn).mpr z)), rfl⟩
/-! add, clear, size, at -/
theorem sm_R_add {r n c : Nat} {w : Int64} (h : sm_R I Ir) (hr : r < 8) (hn8 : n ≤ 8) (hc : I (2 + r) 1 = nI c) (hcr : Ir 1 r = nI c) (he : qx_e (c, I (10 + r)) c (fun i => Ir 2 (200 * r + i))) (hcn : c + n ≤ 200) : sm_R (bz_set I (2 + r) (10 + r) (bz_pn 200 (c, I (10 + r)) w n)) (md_add Ir r c w n) := fun q hq => by
  by_cases e : q = r
  · subst e
    have hE := qx_epn (x := w) he n hn8 hcn
    refine ⟨c + n, hcn, ?_, ?_, ?_⟩
    · rw [bz_set_c, hE.1]
    · rw [md_add_1, pk_us]
    · rw [bz_set_f (by omega), md_add_2]
      refine ⟨rfl, fun i hi => ?_⟩
      have := hE.2 i hi
      rw [this]
      show md_cp (fun i => Ir 2 (200 * q + i)) c (md_by w) n i = md_ab (Ir 2) (200 * q + c) w n (200 * q + i)
      unfold md_ab
      by_cases hic : c ≤ i
      · rw [md_cp_in hic hi, if_pos (by omega), show 200 * q + i - (200 * q + c) = i - c by omega]
      · rw [md_cp_out (by omega), if_neg (by omega)]
  · obtain ⟨c', k1, k2, k3, k4⟩ := h q hq
    refine ⟨c', k1, ?_, ?_, ?_⟩
    · rw [bz_set_o (by omega) (by omega)]; exact k2
    · rw [md_add_1, pk_un e]; exact k3
    · rw [bz_set_o (by omega) (by omega), md_add_2]
      refine ⟨rfl, fun i hi => ?_⟩
      rw [k4.2 i hi]
      show Ir 2 (200 * q + i) = md_ab (Ir 2) (200 * r + c) w n (200 * q + i)
      unfold md_ab
      rw [if_neg (by omega)]
theorem md_add_0r {r c n : Nat} {w : Int64} {a : Nat} (h1 : a ≠ 1) (h2 : a ≠ 2) : md_add Ir r c w n a = Ir a := by
  unfold md_add
  rw [zk_u_n h1, zk_u_n h2]
theorem sm_add (h : Sim I J Ir Jr) (r n : Int32) (w : Int64) : sm_op yX4_add cX4_add 6 (2, 45) yX5_add cX5_add 6 (2, 42) (some .int) [.int r, .int n, .long w] I J Ir Jr := by
  by_cases hb : is_r r ∧ ¬ n < nI 1 ∧ ¬ nI 8 < n
  · obtain ⟨r', hr, rfl⟩ := is_r_of hb.1
    obtain ⟨n', hn1, hn8, rfl⟩ := sm_rng hb.2.1 hb.2.2 (by decide) (by decide)
    obtain ⟨c, hc2, hc, hcr, he⟩ := h.1 r' hr
    by_cases hn : c + n' ≤ 200
    · refine ⟨_, _, _, _, _, fun X => c_X4_add_ok X I J w hr hn1 hn8 hc hc2 hn, fun X => c_X5_add_ok X Ir Jr w hr hn1 hn8 hcr hc2 hn, rfl, ?_⟩
      have h0 := sm_0 h
      refine ⟨sm_R_add h0.1 hr hn8 hc (by rw [md_0_o (by decide)]; exact hcr) (by rw [md_0_o (by decide)]; exact he) hn, sm_N_of h0.2.1 (bz_set_o (by omega) (by omega)) (md_add_0r (by decide) (by decide)), h.2.2.1, ?_⟩
      rw [bz_set_o (by omega) (by omega)]
      exact h.2.2.2
    · exact ⟨_, _, _, _, _, fun X => c_X4_add_ref X I J w hr hn1 hn8 hc hc2 (by omega), fun X => c_X5_add_ref X Ir Jr w hr hn1 hn8 hcr hc2 (by omega), rfl, sm_0 h⟩
  · exact ⟨_, _, _, _, _, fun X => c_X4_add_bad X I J r n w hb, fun X => c_X5_add_bad X Ir Jr r n w hb, rfl, sm_0 h⟩
theorem sm_clear (h : Sim I J Ir Jr) (r : Int32) : sm_op yX4_clear cX4_clear 4 (2, 41) yX5_clear cX5_clear 3 (2, 42) (some .int) [.int r] I J Ir Jr := by
  by_cases hb : is_r r
  · obtain ⟨r', hr, rfl⟩ := is_r_of hb
    obtain ⟨c, hc2, hc, hcr, he⟩ := h.1 r' hr
    refine ⟨_, _, _, _, _, fun X => c_X4_clear_ok X I J hr hc, fun X => c_X5_clear_ok X Ir Jr hr hcr, rfl, ?_⟩
    have h0 := sm_0 h
    refine ⟨fun q hq => ?_, sm_N_of h0.2.1 (zk_u_n (by omega)) (zk_u_n (by decide)), h.2.2.1, ?_⟩
    · by_cases e : q = r'
      · subst e
        refine ⟨0, by decide, ?_, ?_, qx_e0⟩
        · rw [zk_u_s, pk_us]
        · rw [zk_u_s, pk_us]
      · obtain ⟨c', k1, k2, k3, k4⟩ := h0.1 q hq
        refine ⟨c', k1, ?_, ?_, ?_⟩
        · rw [zk_u_n (by omega)]; exact k2
        · rw [zk_u_s, pk_un e]; exact k3
        · rw [zk_u_n (by omega), zk_u_n (by decide)]; exact k4
    · rw [zk_u_n (by omega)]
      exact h.2.2.2
  · exact ⟨_, _, _, _, _, fun X => c_X4_clear_bad X I J r hb, fun X => c_X5_clear_bad X Ir Jr r hb, rfl, sm_0 h⟩
theorem sm_size (h : Sim I J Ir Jr) (r : Int32) : sm_op yX4_size cX4_size 2 (2, 41) yX5_size cX5_size 2 (2, 42) (some .int) [.int r] I J Ir Jr := by
  by_cases hb : is_r r
  · obtain ⟨r', hr, rfl⟩ := is_r_of hb
    obtain ⟨c, hc2, hc, hcr, he⟩ := h.1 r' hr
    exact ⟨_, _, _, _, _, fun X => c_X4_size_ok X I J hr hc hc2, fun X => c_X5_size_ok X Ir Jr hr hcr, rfl, sm_0 h⟩
  · exact ⟨_, _, _, _, _, fun X => c_X4_size_bad X I J r hb, fun X => c_X5_size_bad X Ir Jr r hb, rfl, sm_0 h⟩
theorem sm_at (h : Sim I J Ir Jr) (r i : Int32) : sm_op yX4_at cX4_at 3 (2, 41) yX5_at cX5_at 3 (2, 42) (some .int) [.int r, .int i] I J Ir Jr := by
  by_cases hb : is_r r
  · obtain ⟨r', hr, rfl⟩ := is_r_of hb
    obtain ⟨c, hc2, hc, hcr, he⟩ := h.1 r' hr
    have hv : bz_at c (I (10 + r')) i = md_at c r' (Ir 2) i := by
      unfold bz_at md_at
      by_cases h1 : i < 0
      · rw [if_pos h1, if_pos h1]
      · by_cases h2 : nI c ≤ i
        · rw [if_neg h1, if_neg h1, if_pos h2, if_pos h2]
        · rw [if_neg h1, if_neg h1, if_neg h2, if_neg h2]
          obtain ⟨j, hj, rfl⟩ := nI_of h1
          rw [nI_clamp hj]
          exact he.2 j (Nat.not_le.mp (fun z => h2 ((nI_leI (by omega) hj).mpr z)))
    exact ⟨_, _, _, _, _, fun X => c_X4_at_ok X I J i hr hc hc2, fun X => by rw [hv]; exact c_X5_at_ok X Ir Jr i hr hcr hc2, rfl, sm_0 h⟩
  · exact ⟨_, _, _, _, _, fun X => c_X4_at_bad X I J r i hb, fun X => c_X5_at_bad X Ir Jr r i hb, rfl, sm_0 h⟩
/-! told, word, fill -/
theorem sm_told (h : Sim I J Ir Jr) (w : Int32) : sm_op yX4_told cX4_told 2 (1, 20) yX5_told cX5_told 2 (1, 22) (some .int) [.int w] I J Ir Jr := by
  obtain ⟨h1, ⟨g0, gr, th, sz, bg, kd, ln, ps, tg, sb, dn, pa, sl, la, n1, n2, n3⟩, h3, h4⟩ := id h
  by_cases hb : w < 0 ∨ nI 6 < w
  · exact ⟨_, _, _, _, _, fun X => c_X4_told_bad X I J w hb, fun X => c_X5_told_bad X Ir Jr w hb, rfl, sm_0 h⟩
  · obtain ⟨k, -, hk, rfl⟩ := sm_rng (a := 0) (b := 6) (fun z => hb (Or.inl (by rwa [nI_0] at z))) (fun z => hb (Or.inr z)) (by decide) (by decide)
    have hbg : bg < 2 := by rcases n3 with n3 | n3 <;> omega
    have hv : tl_a kd ln ps tg (4 * sb) dn k = if bg = 0 then 0 else md_ta kd ln ps tg sb dn k := by
      rcases n3 with ⟨rfl, rfl, rfl, rfl, rfl, rfl, rfl⟩ | n3
      · rw [if_pos rfl]
        match k, hk with
        | 0, _ => rfl
        | 1, _ => rfl
        | 2, _ => rfl
        | 3, _ => rfl
        | 4, _ => rfl
        | 5, _ => rfl
        | 6, _ => rfl
        | _ + 7, z => omega
      · rw [if_neg (by omega)]
        match k, hk with
        | 0, _ => rfl
        | 1, _ => rfl
        | 2, _ => rfl
        | 3, _ => exact Nat.mul_comm _ _
        | 4, _ => rfl
        | 5, _ => show ps * 4 * ln = 4 * ln * ps; rw [Nat.mul_comm ps 4, Nat.mul_assoc, Nat.mul_comm ps ln, Nat.mul_assoc]
        | 6, _ => rfl
        | _ + 7, z => omega
    exact ⟨_, _, _, _, _, fun X => c_X4_told_ok X I J n1 k (by omega), fun X => by rw [hv]; exact c_X5_told_ok X Ir Jr n2 k (by omega) hbg, rfl, sm_0 h⟩
theorem sm_word (h : Sim I J Ir Jr) (x y : Int32) : sm_op yX4_word cX4_word 3 (2, 43) yX5_word cX5_word 3 (1, 22) (some .long) [.int x, .int y] I J Ir Jr := by
  obtain ⟨h1, ⟨g0, gr, th, sz, bg, kd, ln, ps, tg, sb, dn, pa, sl, la, n1, n2, n3⟩, h3, h4⟩ := id h
  have hbg : bg < 2 := by rcases n3 with n3 | n3 <;> omega
  have hnb : ln * (4 * sb) ≤ 128 := by
    rcases n3 with ⟨rfl, rfl, rfl, rfl, rfl, rfl, rfl⟩ | n3
    · decide
    · exact n3.2.1.2.2.2.2.2.2.2.2.2
  have hv : fl_wd J (ln * (4 * sb)) x y = md_wd (Jr 9) bg (4 * sb * ln) x y := by
    rw [Nat.mul_comm (4 * sb) ln]
    generalize hq : ln * (4 * sb) = nb at hnb
    unfold fl_wd md_wd
    by_cases e1 : x < 0
    · rw [if_pos e1, if_pos e1, ite_self]
    · rw [if_neg e1, if_neg e1]
      by_cases e2 : nI nb ≤ x
      · rw [if_pos e2, if_pos e2, ite_self]
      · rw [if_neg e2, if_neg e2]
        obtain ⟨j, hj, rfl⟩ := nI_of e1
        have hjn : j < nb := Nat.not_le.mp (fun z => e2 ((nI_leI (by omega) hj).mpr z))
        have hb0 : ¬ bg = 0 := by
          rcases n3 with ⟨rfl, rfl, rfl, rfl, rfl, rfl, rfl⟩ | n3
          · omega
          · omega
        rw [if_neg hb0]
        by_cases e3 : y < 0
        · rw [if_pos e3, if_pos e3]
        · rw [if_neg e3, if_neg e3]
          by_cases e4 : y < nI 128
          · rw [if_pos e4, if_pos e4]
            obtain ⟨i, hi, rfl⟩ := nI_of e3
            rw [nI_clamp hi, nI_clamp hj]
            exact h3.1 j (by omega) i ((nI_ltI hi (by decide)).mp e4)
          · rw [if_neg e4, if_neg e4]
  exact ⟨_, _, _, _, _, fun X => c_X4_word X I J n1 hnb x y, fun X => by rw [hv]; exact c_X5_word X Ir Jr n2 x y hbg (by rw [Nat.mul_comm]; exact hnb), rfl, sm_0 h⟩
theorem sm_fill (h : Sim I J Ir Jr) (n : Int32) : sm_op yX4_fill cX4_fill 4 (5, 126) yX5_fill cX5_fill 2 (8, 201) (some .int) [.int n] I J Ir Jr := by
  obtain ⟨h1, ⟨g0, gr, th, sz, bg, kd, ln, ps, tg, sb, dn, pa, sl, la, n1, n2, n3⟩, h3, h4⟩ := id h
  by_cases hb : ¬ n < nI 1 ∧ ¬ nI 100 < n
  · obtain ⟨k, hk1, hk2, rfl⟩ := sm_rng hb.1 hb.2 (by decide) (by decide)
    rcases n3 with ⟨rfl, rfl, rfl, rfl, rfl, rfl, rfl⟩ | ⟨rfl, hw, htg, hdn⟩
    · exact ⟨_, _, _, _, _, fun X => c_X4_fill_ref X I J n1 hk1 hk2 rfl, fun X => c_X5_fill_ref X Ir Jr n2 hk1 hk2, rfl, sm_0 h⟩
    · refine ⟨_, _, _, _, _, fun X => c_X4_fill_ok X I J n1 hk1 hk2 hw hdn, fun X => c_X5_fill_ok X Ir Jr n2 hk1 hk2 hw hdn, rfl, ?_⟩
      obtain ⟨pa', sl', la', hI'⟩ := fs_I_30 n1 (min k (ps * 4 * ln - dn))
      refine ⟨sm_R_of (sm_0 h).1 (fun a a1 a2 => fs_I_o (by omega) _) (zk_u_n (by decide)) (zk_u_n (by decide)), ⟨g0, gr, 0, sz, 1, kd, ln, ps, tg, sb, _, pa', sl', la', hI', zk_u_s, Or.inr ⟨rfl, hw, htg, by omega⟩⟩, qs_fill h3 hw _ (by omega), ?_⟩
      rw [fs_I_o (by decide)]
      exact h4
  · exact ⟨_, _, _, _, _, fun X => c_X4_fill_bad X I J n hb, fun X => c_X5_fill_bad X Ir Jr n hb, rfl, sm_0 h⟩
end SM
