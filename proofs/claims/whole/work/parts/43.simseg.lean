/-! SIMULATION: segments -/
def qs_Z : Nat → Int64 := fun _ => lN 0
def qs_AB (pa la sl nb ps kd : Nat) : Nat → Int64 := md_jj qs_Z (md_jj qs_Z (md_af qs_Z pa la sl nb ps kd 1) qs_Z) qs_Z
theorem qs_af {f f' : Nat → Int64} {pa la sl nb ps kd ct : Nat} : qx_q 128 (md_af f pa la sl nb ps kd ct) (md_af f' pa la sl nb ps kd ct) := by
  unfold md_af
  exact qx_qu (qx_qu (qx_qu (qx_qu (qx_qu (qx_qu (qx_qu (fun k hk => by rw [fz_in hk, fz_in hk]) rfl) rfl) rfl) rfl) rfl) rfl) rfl
theorem qs_z {f : Nat → Int64} : qx_q 128 (fz_fill f (fun _ => lN 0) 128) qs_Z := fun k hk => by
  rw [fz_in hk]
  rfl
theorem qs_mT {s : md_T} {pa la sl nb ps kd : Nat} : qx_q 128 (md_mT s pa la sl nb ps kd 1).2.2.2.2 (qs_AB pa la sl nb ps kd) := by
  unfold md_mT qs_AB
  dsimp only
  intro k hk
  rw [fz_in hk]
  exact qj_jj qs_z (fun k hk => by rw [fz_in hk]; exact qj_jj qs_z qs_af k hk) k hk
theorem qs_mT1 {s : md_T} {pa la sl nb ps kd ct : Nat} : (md_mT s pa la sl nb ps kd ct).1 = s.1 := by simp only [md_mT]
theorem qs_j0 {J : zk_J} {f : Nat → Int64} (h32 : qx_q 128 (J 32) qs_Z) (h33 : qx_q 128 (J 33) f) : qx_q 128 (jz_join J 32 33 33 0 33) (md_jj qs_Z f qs_Z) := fun k hk => by
  rw [jz_join_k, fz_in hk, qj_join qs_Z h32 h33 33 0 hk, if_pos rfl, qj_0x]
theorem qs_ad_eq {a0 : Nat → Int64} {pa la sl nb ps kd : Nat} : fl_ad a0 pa la sl nb ps kd = md_af a0 pa la sl nb ps kd 1 := by
  unfold fl_ad md_af
  rfl
theorem qs_adr {J : zk_J} {pa la sl nb ps kd : Nat} (h32 : qx_q 128 (J 32) qs_Z) : qx_q 128 (jz_join (jz_join (zk_u J 33 (fl_ad (J 33) pa la sl nb ps kd)) 32 33 33 0) 32 33 33 0 33) (qs_AB pa la sl nb ps kd) := by
  unfold qs_AB
  refine qs_j0 ?_ (qs_j0 ?_ ?_)
  · rw [jz_join_o (by decide) (by decide) (by decide) (by decide), zk_u_n (by decide)]; exact h32
  · rw [zk_u_n (by decide)]; exact h32
  · rw [zk_u_s, qs_ad_eq]; exact qs_af
def qs_R (J : zk_J) (s : md_T) : Prop := (∀ b, b < 128 → ∀ k, k < 128 → J (38 + b) k = s.1 (128 * b + k)) ∧ qx_q 128 (J 32) qs_Z
theorem qs_adr_R {J : zk_J} {s : md_T} {kd ps nb pa sl la : Nat} (h : qs_R J s) : qs_R (fl_adr J kd ps nb pa sl la) s ∧ (fl_ba kd pa sl ≠ 0 → qx_q 128 (fl_adr J kd ps nb pa sl la 33) (qs_AB pa la sl nb ps kd)) := by
  unfold fl_adr
  by_cases e : fl_ba kd pa sl = 0
  · rw [if_pos e]; exact ⟨h, fun z => absurd e z⟩
  · rw [if_neg e]
    have ho : ∀ a, a = 32 ∨ 38 ≤ a → jz_join (jz_join (zk_u J 33 (fl_ad (J 33) pa la sl nb ps kd)) 32 33 33 0) 32 33 33 0 a = J a := fun a ha => by
      rw [jz_join_o (by omega) (by omega) (by omega) (by omega), jz_join_o (by omega) (by omega) (by omega) (by omega), zk_u_n (by omega)]
    exact ⟨⟨fun b hb k hk => by rw [ho _ (by omega)]; exact h.1 b hb k hk, by rw [ho _ (Or.inl rfl)]; exact h.2⟩, fun _ => qs_adr h.2⟩
theorem qs_Ra {J : zk_J} {s : md_T} {kd ps nb pa sl la : Nat} (h : qs_R J s) : qs_R J (md_adr s kd ps nb pa sl la) := by
  unfold md_adr
  split
  · exact h
  · unfold qs_R
    rw [qs_mT1]
    exact h
theorem qs_w1 {J : zk_J} {s : md_T} (h : qs_R J s) {bf fr hr pa : Nat} (h1 : bf < 128) (h2 : fr < 128) (h3 : hr < 128) : qs_R (jz_join J (38 + bf) (38 + fr) (38 + hr) (if pa = 0 then 0 else 1)) (md_w1 s bf fr hr pa) := by
  have hx : qx_q 128 (J (38 + bf)) (fz_fill s.2.1 (fun k => s.1 (128 * bf + k)) 128) := fun k hk => by rw [fz_in hk]; exact h.1 bf h1 k hk
  have hy : qx_q 128 (J (38 + fr)) (fz_fill s.2.2.1 (fun k => s.1 (128 * fr + k)) 128) := fun k hk => by rw [fz_in hk]; exact h.1 fr h2 k hk
  refine ⟨fun b hb k hk => ?_, ?_⟩
  · unfold md_w1
    dsimp only
    by_cases e : b = hr
    · subst e
      rw [jz_join_k, fz_in hk, qj_join s.2.2.2.1 hx hy _ _ hk]
      unfold md_mm
      rw [if_pos (show 128 * b ≤ 128 * b + k ∧ 128 * b + k < 128 * b + 128 by omega), show 128 * b + k - 128 * b = k by omega]
      by_cases hp : pa = 0
      · rw [if_pos hp, if_pos hp, if_pos rfl, qj_0x]
      · rw [if_neg hp, if_neg hp, if_neg (by decide), h.1 b hb k hk]
    · rw [jz_join_o (by omega) (by omega) (by omega) (by omega), h.1 b hb k hk]
      unfold md_mm
      rw [if_neg (by omega)]
  · rw [jz_join_o (by omega) (by omega) (by omega) (by omega)]
    exact h.2
theorem qs_step {J : zk_J} {s : md_T} {kd ln ps lb sb pa sl la i : Nat} (h : qs_R J s) (hA : fl_ba kd pa sl ≠ 0 → qx_q 128 (J 33) (qs_AB pa la sl (ln * lb) ps kd)) (hok : fl_ok ln lb sb pa sl la i) : qs_R (fl_step J kd ln lb sb pa sl la i) (md_step s kd ln ps lb sb pa sl la i) ∧ (fl_ba kd pa sl ≠ 0 → qx_q 128 (fl_step J kd ln lb sb pa sl la i 33) (qs_AB pa la sl (ln * lb) ps kd)) := by
  obtain ⟨k1, k2, k3, k4, k5, k6, k7, k8, k9, k10, k11⟩ := id hok
  have hml : la * lb + lb ≤ ln * lb := by
    have := Nat.mul_le_mul_right lb (show la + 1 ≤ ln from k6)
    rwa [Nat.add_mul, Nat.one_mul] at this
  have hss : sl * sb ≤ 3 * sb := Nat.mul_le_mul_right _ (by omega)
  have hbf : fl_bf lb la (sl * sb + i) < 128 := by
    unfold fl_bf
    split <;> omega
  have hhr : la * lb + (sl * sb + i) < 128 := by omega
  have hnum : fl_num J kd lb sb pa sl la i = md_num (md_adr s kd ps (lb * ln) pa sl la) kd lb sb pa sl la i := by
    unfold fl_num md_num md_adr
    by_cases e : fl_ba kd pa sl = 0
    · rw [if_pos e, if_pos e, if_pos e]
      exact h.1 _ hbf 0 (by decide)
    · rw [if_neg e, if_neg e, if_neg e, Nat.mul_comm lb ln]
      have hi : i % 128 < 128 := Nat.mod_lt _ (by decide)
      rw [hA e _ hi, qs_mT _ hi]
  unfold fl_step md_step
  rw [hnum]
  have hfr := Nat.lt_of_lt_of_le (fl_far_lt (fl_nn (md_num (md_adr s kd ps (lb * ln) pa sl la) kd lb sb pa sl la i)) hok) k11
  refine ⟨qs_w1 (qs_Ra h) hbf hfr hhr, fun e => ?_⟩
  rw [jz_join_o (by omega) (by omega) (by omega) (by omega)]
  exact hA e
theorem qs_loop {J : zk_J} {s : md_T} {kd ln ps tg lb sb pa sl la : Nat} (h : qs_R J s) (hA : fl_ba kd pa sl ≠ 0 → qx_q 128 (J 33) (qs_AB pa la sl (ln * lb) ps kd)) (hw : fl_is kd ln ps tg lb sb) (hpa : pa ≤ 4) (hsl : sl < 4) (hla : la < ln) : ∀ t, t ≤ sb - fl_i0 pa sl → qs_R (fl_loop J kd ln lb sb pa sl la t) (md_loop s kd ln ps lb sb pa sl la t) ∧ (fl_ba kd pa sl ≠ 0 → qx_q 128 (fl_loop J kd ln lb sb pa sl la t 33) (qs_AB pa la sl (ln * lb) ps kd))
  | 0, _ => ⟨h, hA⟩
  | t + 1, ht => by
    obtain ⟨i1, i2⟩ := qs_loop h hA hw hpa hsl hla t (by omega)
    obtain ⟨w1, w2, w3, w4, w5, w6, w7, w8, w9, w10⟩ := hw
    rw [fl_loop, md_loop]
    refine qs_step i1 i2 ⟨w2, w3, w7, w8, w9, hla, hsl, hpa, by omega, fun z => ?_, w10⟩
    unfold fl_i0
    rw [if_pos z]
    omega
theorem qs_seg {J : zk_J} {s : md_T} {kd ln ps tg lb sb pa sl la : Nat} (h : qs_R J s) (hw : fl_is kd ln ps tg lb sb) (hpa : pa ≤ 4) (hsl : sl < 4) (hla : la < ln) : qs_R (fl_seg J kd ln ps lb sb pa sl la) (md_seg s kd ln ps lb sb pa sl la) := by
  obtain ⟨i1, i2⟩ := qs_adr_R (kd := kd) (ps := ps) (nb := ln * lb) (pa := pa) (sl := sl) (la := la) h
  unfold fl_seg md_seg
  exact (qs_loop i1 i2 hw hpa hsl hla _ (Nat.le_refl _)).1
theorem qs_of5 {J : zk_J} {s : md_T} : (md_of (md_5 J s)).1 = s.1 := by
  obtain ⟨m, n, f, x, a⟩ := s
  show md_5 J (m, n, f, x, a) 9 = m
  exact md_5_9
theorem qs_fill {J Jr : zk_J} {kd ln ps tg sb dn : Nat} (h : qs_R J (md_of Jr)) (hw : fl_is kd ln ps tg (4 * sb) sb) : ∀ t, dn + t ≤ ps * 4 * ln → qs_R (fs_J J kd ln ps (4 * sb) sb dn t) (md_of (mf_J Jr kd ln ps sb dn t))
  | 0, _ => h
  | t + 1, ht => by
    have ih := qs_fill (dn := dn) h hw t (by omega)
    obtain ⟨w1, w2, w3, w4, w5, w6, w7, w8, w9, w10⟩ := id hw
    have hd : (dn + t) / ln < ps * 4 := Nat.div_lt_of_lt_mul (by rw [Nat.mul_comm]; omega)
    have := qs_seg ih hw (pa := (dn + t) / ln / 4) (sl := (dn + t) / ln % 4) (la := (dn + t) % ln) (by omega) (by omega) (Nat.mod_lt _ (by omega))
    rw [fs_J, mf_J]
    generalize fl_seg (fs_J J kd ln ps (4 * sb) sb dn t) kd ln ps (4 * sb) sb ((dn + t) / ln / 4) ((dn + t) / ln % 4) ((dn + t) % ln) = Jn at this ⊢
    generalize md_seg (md_of (mf_J Jr kd ln ps sb dn t)) kd ln ps (4 * sb) sb ((dn + t) / ln / 4) ((dn + t) / ln % 4) ((dn + t) % ln) = sn at this ⊢
    unfold qs_R at this ⊢
    rw [qs_of5]
    exact this
theorem mf_J_o {J : zk_J} {kd ln ps sc dn a : Nat} (h : a < 9) : ∀ t, mf_J J kd ln ps sc dn t a = J a
  | 0 => rfl
  | t + 1 => by
    rw [mf_J, md_5, md4_o (by omega), zk_u_n (by omega)]
    exact mf_J_o h t
