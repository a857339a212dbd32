theorem zk_in {w : Cond} (i : Nat) (h : lw_tbl[i]? = some w) (g : zk_good w = true) : w ∈ zk_ws := List.mem_filter.mpr ⟨List.mem_of_getElem? h, g⟩
theorem zk_inN {w : Cond} (i : Nat) (h : lw_tbl[i]? = some w) (g : zk_isNest w = true) : w ∈ zk_nest := List.mem_filter.mpr ⟨List.mem_of_getElem? h, g⟩
set_option maxRecDepth 20000 in
theorem uw_X0 : ∀ w ∈ u_ws RX0 TX0 2, w ∈ zk_ws := by decide +kernel
set_option maxRecDepth 20000 in
theorem uw_X1 : ∀ w ∈ u_ws RX1 TX1 14, w ∈ zk_ws := by decide +kernel
set_option maxRecDepth 20000 in
theorem uw_X2 : ∀ w ∈ u_ws RX2 TX2 5, w ∈ zk_ws := by decide +kernel
set_option maxRecDepth 20000 in
theorem uw_X3 : ∀ w ∈ u_ws RX3 TX3 3, w ∈ zk_ws := by decide +kernel
set_option maxRecDepth 20000 in
theorem uw_X4 : ∀ w ∈ u_ws RX4 TX4 5, w ∈ zk_ws := by decide +kernel
set_option maxRecDepth 20000 in
theorem uw_X5 : ∀ w ∈ u_ws RX5 TX5 23, w ∈ zk_ws := by decide +kernel
theorem fl_X0_15 : zk_fl RX0 15 0 0 RX0 TX0 2 := ⟨rfl, by decide, uw_X0, rfl, Or.inl (zk_in 61 (by decide +kernel) (by decide +kernel))⟩
theorem fl_X0_21 : zk_fl RX0 21 0 1 RX0 TX0 2 := ⟨rfl, by decide, uw_X0, rfl, Or.inl (zk_in 62 (by decide +kernel) (by decide +kernel))⟩
theorem fl_X2_36 : zk_fl RX2 36 0 1 RX0 TX0 2 := ⟨rfl, by decide, uw_X0, rfl, Or.inr (zk_inN 63 (by decide +kernel) (by decide +kernel))⟩
theorem fl_X4_47 : zk_fl RX4 47 0 1 RX0 TX0 2 := ⟨rfl, by decide, uw_X0, rfl, Or.inr (zk_inN 64 (by decide +kernel) (by decide +kernel))⟩
theorem fl_X2_16 : zk_fl RX2 16 2 0 RX2 TX2 5 := ⟨rfl, by decide, uw_X2, rfl, Or.inl (zk_in 79 (by decide +kernel) (by decide +kernel))⟩
theorem fl_X4_69 : zk_fl RX4 69 2 0 RX2 TX2 5 := ⟨rfl, by decide, uw_X2, rfl, Or.inr (zk_inN 80 (by decide +kernel) (by decide +kernel))⟩
theorem fl_X2_20 : zk_fl RX2 20 2 1 RX2 TX2 5 := ⟨rfl, by decide, uw_X2, rfl, Or.inl (zk_in 81 (by decide +kernel) (by decide +kernel))⟩
theorem fl_X4_79 : zk_fl RX4 79 2 1 RX2 TX2 5 := ⟨rfl, by decide, uw_X2, rfl, Or.inr (zk_inN 82 (by decide +kernel) (by decide +kernel))⟩
theorem fl_X2_23 : zk_fl RX2 23 2 2 RX2 TX2 5 := ⟨rfl, by decide, uw_X2, rfl, Or.inl (zk_in 83 (by decide +kernel) (by decide +kernel))⟩
theorem fl_X2_27 : zk_fl RX2 27 2 3 RX2 TX2 5 := ⟨rfl, by decide, uw_X2, rfl, Or.inl (zk_in 84 (by decide +kernel) (by decide +kernel))⟩
theorem fl_X2_30 : zk_fl RX2 30 2 4 RX2 TX2 5 := ⟨rfl, by decide, uw_X2, rfl, Or.inl (zk_in 85 (by decide +kernel) (by decide +kernel))⟩
theorem fl_X3_9 : zk_fl RX3 9 3 0 RX3 TX3 3 := ⟨rfl, by decide, uw_X3, rfl, Or.inl (zk_in 112 (by decide +kernel) (by decide +kernel))⟩
theorem fl_X3_15 : zk_fl RX3 15 3 1 RX3 TX3 3 := ⟨rfl, by decide, uw_X3, rfl, Or.inl (zk_in 113 (by decide +kernel) (by decide +kernel))⟩
theorem fl_X3_18 : zk_fl RX3 18 3 2 RX3 TX3 3 := ⟨rfl, by decide, uw_X3, rfl, Or.inl (zk_in 114 (by decide +kernel) (by decide +kernel))⟩
theorem fl_X1_11 : zk_fl RX1 11 1 0 RX1 TX1 14 := ⟨rfl, by decide, uw_X1, rfl, Or.inl (zk_in 122 (by decide +kernel) (by decide +kernel))⟩
theorem fl_X1_16 : zk_fl RX1 16 1 1 RX1 TX1 14 := ⟨rfl, by decide, uw_X1, rfl, Or.inl (zk_in 123 (by decide +kernel) (by decide +kernel))⟩
theorem fl_X1_20 : zk_fl RX1 20 1 2 RX1 TX1 14 := ⟨rfl, by decide, uw_X1, rfl, Or.inl (zk_in 124 (by decide +kernel) (by decide +kernel))⟩
theorem fl_X1_26 : zk_fl RX1 26 1 3 RX1 TX1 14 := ⟨rfl, by decide, uw_X1, rfl, Or.inl (zk_in 125 (by decide +kernel) (by decide +kernel))⟩
theorem fl_X1_34 : zk_fl RX1 34 1 4 RX1 TX1 14 := ⟨rfl, by decide, uw_X1, rfl, Or.inl (zk_in 126 (by decide +kernel) (by decide +kernel))⟩
theorem fl_X4_142 : zk_fl RX4 142 1 4 RX1 TX1 14 := ⟨rfl, by decide, uw_X1, rfl, Or.inr (zk_inN 127 (by decide +kernel) (by decide +kernel))⟩
theorem fl_X1_38 : zk_fl RX1 38 1 5 RX1 TX1 14 := ⟨rfl, by decide, uw_X1, rfl, Or.inl (zk_in 128 (by decide +kernel) (by decide +kernel))⟩
theorem fl_X4_145 : zk_fl RX4 145 1 5 RX1 TX1 14 := ⟨rfl, by decide, uw_X1, rfl, Or.inr (zk_inN 129 (by decide +kernel) (by decide +kernel))⟩
theorem fl_X1_41 : zk_fl RX1 41 1 6 RX1 TX1 14 := ⟨rfl, by decide, uw_X1, rfl, Or.inl (zk_in 130 (by decide +kernel) (by decide +kernel))⟩
theorem fl_X4_148 : zk_fl RX4 148 1 6 RX1 TX1 14 := ⟨rfl, by decide, uw_X1, rfl, Or.inr (zk_inN 131 (by decide +kernel) (by decide +kernel))⟩
theorem fl_X1_44 : zk_fl RX1 44 1 7 RX1 TX1 14 := ⟨rfl, by decide, uw_X1, rfl, Or.inl (zk_in 132 (by decide +kernel) (by decide +kernel))⟩
theorem fl_X4_136 : zk_fl RX4 136 1 7 RX1 TX1 14 := ⟨rfl, by decide, uw_X1, rfl, Or.inr (zk_inN 133 (by decide +kernel) (by decide +kernel))⟩
theorem fl_X1_50 : zk_fl RX1 50 1 8 RX1 TX1 14 := ⟨rfl, by decide, uw_X1, rfl, Or.inl (zk_in 134 (by decide +kernel) (by decide +kernel))⟩
theorem fl_X1_47 : zk_fl RX1 47 1 9 RX1 TX1 14 := ⟨rfl, by decide, uw_X1, rfl, Or.inl (zk_in 135 (by decide +kernel) (by decide +kernel))⟩
theorem fl_X1_53 : zk_fl RX1 53 1 10 RX1 TX1 14 := ⟨rfl, by decide, uw_X1, rfl, Or.inl (zk_in 136 (by decide +kernel) (by decide +kernel))⟩
theorem fl_X4_120 : zk_fl RX4 120 1 10 RX1 TX1 14 := ⟨rfl, by decide, uw_X1, rfl, Or.inr (zk_inN 137 (by decide +kernel) (by decide +kernel))⟩
theorem fl_X1_89 : zk_fl RX1 89 1 11 RX1 TX1 14 := ⟨rfl, by decide, uw_X1, rfl, Or.inl (zk_in 138 (by decide +kernel) (by decide +kernel))⟩
theorem fl_X1_86 : zk_fl RX1 86 1 12 RX1 TX1 14 := ⟨rfl, by decide, uw_X1, rfl, Or.inl (zk_in 139 (by decide +kernel) (by decide +kernel))⟩
theorem fl_X1_83 : zk_fl RX1 83 1 13 RX1 TX1 14 := ⟨rfl, by decide, uw_X1, rfl, Or.inl (zk_in 140 (by decide +kernel) (by decide +kernel))⟩
theorem fl_X4_11 : zk_fl RX4 11 4 0 RX4 TX4 5 := ⟨rfl, by decide, uw_X4, rfl, Or.inl (zk_in 170 (by decide +kernel) (by decide +kernel))⟩
theorem fl_X4_18 : zk_fl RX4 18 4 1 RX4 TX4 5 := ⟨rfl, by decide, uw_X4, rfl, Or.inl (zk_in 171 (by decide +kernel) (by decide +kernel))⟩
theorem fl_X4_22 : zk_fl RX4 22 4 2 RX4 TX4 5 := ⟨rfl, by decide, uw_X4, rfl, Or.inl (zk_in 172 (by decide +kernel) (by decide +kernel))⟩
theorem fl_X4_28 : zk_fl RX4 28 4 3 RX4 TX4 5 := ⟨rfl, by decide, uw_X4, rfl, Or.inl (zk_in 173 (by decide +kernel) (by decide +kernel))⟩
theorem fl_X4_35 : zk_fl RX4 35 4 4 RX4 TX4 5 := ⟨rfl, by decide, uw_X4, rfl, Or.inl (zk_in 174 (by decide +kernel) (by decide +kernel))⟩
theorem ls_X2_67 : Cond.fieldLink RX2 67 "SlowSeal$Hasher" "START" "[J" ∈ zk_ws ∨ Cond.fieldLinkNest RX2 67 "SlowSeal$Hasher" "START" "[J" zk_host ∈ zk_nest := Or.inl (zk_in 252 (by decide +kernel) (by decide +kernel))
theorem ls_X2_78 : Cond.fieldLink RX2 78 "SlowSeal$Hasher" "ORDERS" "[I" ∈ zk_ws ∨ Cond.fieldLinkNest RX2 78 "SlowSeal$Hasher" "ORDERS" "[I" zk_host ∈ zk_nest := Or.inl (zk_in 269 (by decide +kernel) (by decide +kernel))
theorem ls_X2_95 : Cond.fieldLink RX2 95 "SlowSeal" "FOURS" "[I" ∈ zk_ws ∨ Cond.fieldLinkNest RX2 95 "SlowSeal" "FOURS" "[I" zk_host ∈ zk_nest := Or.inr (zk_inN 275 (by decide +kernel) (by decide +kernel))
theorem ls_X3_29 : Cond.fieldLink RX3 29 "SlowSeal" "FOURS" "[I" ∈ zk_ws ∨ Cond.fieldLinkNest RX3 29 "SlowSeal" "FOURS" "[I" zk_host ∈ zk_nest := Or.inr (zk_inN 389 (by decide +kernel) (by decide +kernel))
theorem fl_X5_50 : zk_fl RX5 50 5 0 RX5 TX5 23 := ⟨rfl, by decide, uw_X5, rfl, Or.inl (zk_in 439 (by decide +kernel) (by decide +kernel))⟩
theorem fl_X5_7 : zk_fl RX5 7 5 1 RX5 TX5 23 := ⟨rfl, by decide, uw_X5, rfl, Or.inl (zk_in 440 (by decide +kernel) (by decide +kernel))⟩
theorem fl_X5_13 : zk_fl RX5 13 5 2 RX5 TX5 23 := ⟨rfl, by decide, uw_X5, rfl, Or.inl (zk_in 441 (by decide +kernel) (by decide +kernel))⟩
theorem fl_X5_106 : zk_fl RX5 106 5 3 RX5 TX5 23 := ⟨rfl, by decide, uw_X5, rfl, Or.inl (zk_in 442 (by decide +kernel) (by decide +kernel))⟩
theorem fl_X5_16 : zk_fl RX5 16 5 4 RX5 TX5 23 := ⟨rfl, by decide, uw_X5, rfl, Or.inl (zk_in 443 (by decide +kernel) (by decide +kernel))⟩
theorem fl_X5_109 : zk_fl RX5 109 5 5 RX5 TX5 23 := ⟨rfl, by decide, uw_X5, rfl, Or.inl (zk_in 444 (by decide +kernel) (by decide +kernel))⟩
theorem fl_X5_19 : zk_fl RX5 19 5 6 RX5 TX5 23 := ⟨rfl, by decide, uw_X5, rfl, Or.inl (zk_in 445 (by decide +kernel) (by decide +kernel))⟩
theorem fl_X5_22 : zk_fl RX5 22 5 7 RX5 TX5 23 := ⟨rfl, by decide, uw_X5, rfl, Or.inl (zk_in 446 (by decide +kernel) (by decide +kernel))⟩
theorem fl_X5_26 : zk_fl RX5 26 5 8 RX5 TX5 23 := ⟨rfl, by decide, uw_X5, rfl, Or.inl (zk_in 447 (by decide +kernel) (by decide +kernel))⟩
theorem fl_X5_29 : zk_fl RX5 29 5 9 RX5 TX5 23 := ⟨rfl, by decide, uw_X5, rfl, Or.inl (zk_in 448 (by decide +kernel) (by decide +kernel))⟩
theorem fl_X5_32 : zk_fl RX5 32 5 10 RX5 TX5 23 := ⟨rfl, by decide, uw_X5, rfl, Or.inl (zk_in 449 (by decide +kernel) (by decide +kernel))⟩
theorem fl_X5_161 : zk_fl RX5 161 5 11 RX5 TX5 23 := ⟨rfl, by decide, uw_X5, rfl, Or.inl (zk_in 450 (by decide +kernel) (by decide +kernel))⟩
theorem fl_X5_165 : zk_fl RX5 165 5 12 RX5 TX5 23 := ⟨rfl, by decide, uw_X5, rfl, Or.inl (zk_in 451 (by decide +kernel) (by decide +kernel))⟩
theorem fl_X5_168 : zk_fl RX5 168 5 13 RX5 TX5 23 := ⟨rfl, by decide, uw_X5, rfl, Or.inl (zk_in 452 (by decide +kernel) (by decide +kernel))⟩
theorem fl_X5_171 : zk_fl RX5 171 5 14 RX5 TX5 23 := ⟨rfl, by decide, uw_X5, rfl, Or.inl (zk_in 453 (by decide +kernel) (by decide +kernel))⟩
theorem fl_X5_174 : zk_fl RX5 174 5 15 RX5 TX5 23 := ⟨rfl, by decide, uw_X5, rfl, Or.inl (zk_in 454 (by decide +kernel) (by decide +kernel))⟩
theorem fl_X5_177 : zk_fl RX5 177 5 16 RX5 TX5 23 := ⟨rfl, by decide, uw_X5, rfl, Or.inl (zk_in 455 (by decide +kernel) (by decide +kernel))⟩
theorem fl_X5_180 : zk_fl RX5 180 5 17 RX5 TX5 23 := ⟨rfl, by decide, uw_X5, rfl, Or.inl (zk_in 456 (by decide +kernel) (by decide +kernel))⟩
theorem fl_X5_35 : zk_fl RX5 35 5 18 RX5 TX5 23 := ⟨rfl, by decide, uw_X5, rfl, Or.inl (zk_in 457 (by decide +kernel) (by decide +kernel))⟩
theorem fl_X5_38 : zk_fl RX5 38 5 19 RX5 TX5 23 := ⟨rfl, by decide, uw_X5, rfl, Or.inl (zk_in 458 (by decide +kernel) (by decide +kernel))⟩
theorem fl_X5_41 : zk_fl RX5 41 5 20 RX5 TX5 23 := ⟨rfl, by decide, uw_X5, rfl, Or.inl (zk_in 459 (by decide +kernel) (by decide +kernel))⟩
theorem fl_X5_44 : zk_fl RX5 44 5 21 RX5 TX5 23 := ⟨rfl, by decide, uw_X5, rfl, Or.inl (zk_in 460 (by decide +kernel) (by decide +kernel))⟩
theorem fl_X5_47 : zk_fl RX5 47 5 22 RX5 TX5 23 := ⟨rfl, by decide, uw_X5, rfl, Or.inl (zk_in 461 (by decide +kernel) (by decide +kernel))⟩
theorem fp_X0_1 : zk_fp RX0 TX0 2 1 tyX0 := ⟨tyX0_ok, nmX0, rfl⟩
theorem fp_X1_4 : zk_fp RX1 TX1 14 4 tyX1 := ⟨tyX1_ok, nmX1, rfl⟩
theorem fp_X1_5 : zk_fp RX1 TX1 14 5 tyX1 := ⟨tyX1_ok, nmX1, rfl⟩
theorem fp_X1_6 : zk_fp RX1 TX1 14 6 tyX1 := ⟨tyX1_ok, nmX1, rfl⟩
theorem fp_X1_7 : zk_fp RX1 TX1 14 7 tyX1 := ⟨tyX1_ok, nmX1, rfl⟩
theorem fp_X1_8 : zk_fp RX1 TX1 14 8 tyX1 := ⟨tyX1_ok, nmX1, rfl⟩
theorem fp_X1_9 : zk_fp RX1 TX1 14 9 tyX1 := ⟨tyX1_ok, nmX1, rfl⟩
theorem fp_X1_10 : zk_fp RX1 TX1 14 10 tyX1 := ⟨tyX1_ok, nmX1, rfl⟩
theorem fp_X1_11 : zk_fp RX1 TX1 14 11 tyX1 := ⟨tyX1_ok, nmX1, rfl⟩
theorem fp_X1_12 : zk_fp RX1 TX1 14 12 tyX1 := ⟨tyX1_ok, nmX1, rfl⟩
theorem fp_X1_13 : zk_fp RX1 TX1 14 13 tyX1 := ⟨tyX1_ok, nmX1, rfl⟩
theorem fp_X5_0 : zk_fp RX5 TX5 23 0 tyX5 := ⟨tyX5_ok, nmX5, rfl⟩
theorem fp_X5_3 : zk_fp RX5 TX5 23 3 tyX5 := ⟨tyX5_ok, nmX5, rfl⟩
theorem fp_X5_5 : zk_fp RX5 TX5 23 5 tyX5 := ⟨tyX5_ok, nmX5, rfl⟩
theorem fp_X5_11 : zk_fp RX5 TX5 23 11 tyX5 := ⟨tyX5_ok, nmX5, rfl⟩
theorem fp_X5_12 : zk_fp RX5 TX5 23 12 tyX5 := ⟨tyX5_ok, nmX5, rfl⟩
theorem fp_X5_13 : zk_fp RX5 TX5 23 13 tyX5 := ⟨tyX5_ok, nmX5, rfl⟩
theorem fp_X5_14 : zk_fp RX5 TX5 23 14 tyX5 := ⟨tyX5_ok, nmX5, rfl⟩
theorem fp_X5_15 : zk_fp RX5 TX5 23 15 tyX5 := ⟨tyX5_ok, nmX5, rfl⟩
theorem fp_X5_16 : zk_fp RX5 TX5 23 16 tyX5 := ⟨tyX5_ok, nmX5, rfl⟩
theorem fp_X5_17 : zk_fp RX5 TX5 23 17 tyX5 := ⟨tyX5_ok, nmX5, rfl⟩
theorem ml_L_9 : zk_ml RL 9 yX4_init := Or.inl (zk_in 45 (by decide +kernel) (by decide +kernel))
theorem ml_X4_15 : zk_ml RX4 15 yX0_init := Or.inl (zk_in 54 (by decide +kernel) (by decide +kernel))
theorem mm_X0_9 : Cond.methodLink RX0 9 Lib.Math.max.name ∈ zk_ws := (zk_in 58 (by decide +kernel) (by decide +kernel))
theorem ml_X4_27 : zk_ml RX4 27 yX2_init := Or.inr (zk_inN 73 (by decide +kernel) (by decide +kernel))
theorem ml_X2_13 : zk_ml RX2 13 yX0_init := Or.inl (zk_in 78 (by decide +kernel) (by decide +kernel))
theorem ml_X4_34 : zk_ml RX4 34 yX1_init := Or.inr (zk_inN 100 (by decide +kernel) (by decide +kernel))
theorem ml_X1_25 : zk_ml RX1 25 yX3_init := Or.inr (zk_inN 108 (by decide +kernel) (by decide +kernel))
theorem ml_L_15 : zk_ml RL 15 yX4_add := Or.inl (zk_in 186 (by decide +kernel) (by decide +kernel))
theorem ml_X4_39 : zk_ml RX4 39 yX4_isRegister := Or.inl (zk_in 190 (by decide +kernel) (by decide +kernel))
theorem ml_X4_43 : zk_ml RX4 43 yX4_bytesOf := Or.inl (zk_in 193 (by decide +kernel) (by decide +kernel))
theorem ml_X4_51 : zk_ml RX4 51 yX0_putNumber := Or.inl (zk_in 197 (by decide +kernel) (by decide +kernel))
theorem ml_X0_28 : zk_ml RX0 28 yX0_put := Or.inl (zk_in 201 (by decide +kernel) (by decide +kernel))
theorem ml_L_20 : zk_ml RL 20 yX4_clear := Or.inl (zk_in 205 (by decide +kernel) (by decide +kernel))
theorem ml_X4_55 : zk_ml RX4 55 yX0_empty := Or.inl (zk_in 209 (by decide +kernel) (by decide +kernel))
theorem ml_L_25 : zk_ml RL 25 yX4_size := Or.inl (zk_in 213 (by decide +kernel) (by decide +kernel))
theorem ml_L_29 : zk_ml RL 29 yX4_at := Or.inl (zk_in 217 (by decide +kernel) (by decide +kernel))
theorem ml_X4_58 : zk_ml RX4 58 yX0_byteAt := Or.inl (zk_in 221 (by decide +kernel) (by decide +kernel))
theorem ml_L_34 : zk_ml RL 34 yX4_hash := Or.inl (zk_in 225 (by decide +kernel) (by decide +kernel))
theorem ml_X4_62 : zk_ml RX4 62 yX4_isRegisterOrNone := Or.inl (zk_in 229 (by decide +kernel) (by decide +kernel))
theorem ml_X4_65 : zk_ml RX4 65 yX2_openWithKey := Or.inl (zk_in 232 (by decide +kernel) (by decide +kernel))
theorem ml_X2_33 : zk_ml RX2 33 yX0_empty := Or.inl (zk_in 236 (by decide +kernel) (by decide +kernel))
theorem ml_X2_40 : zk_ml RX2 40 yX0_putAll := Or.inl (zk_in 237 (by decide +kernel) (by decide +kernel))
theorem ml_X0_32 : zk_ml RX0 32 yX0_byteAt := Or.inl (zk_in 241 (by decide +kernel) (by decide +kernel))
theorem ml_X2_44 : zk_ml RX2 44 yX0_put := Or.inl (zk_in 242 (by decide +kernel) (by decide +kernel))
theorem ml_X4_72 : zk_ml RX4 72 yX0_putAll := Or.inl (zk_in 243 (by decide +kernel) (by decide +kernel))
theorem ml_X4_75 : zk_ml RX4 75 yX2_makeShort := Or.inl (zk_in 244 (by decide +kernel) (by decide +kernel))
theorem ml_X2_51 : zk_ml RX2 51 yX2_digest := Or.inl (zk_in 248 (by decide +kernel) (by decide +kernel))
theorem mm_X2_71 : Cond.methodLink RX2 71 Lib.Math.max.name ∈ zk_ws := (zk_in 255 (by decide +kernel) (by decide +kernel))
theorem ml_X2_74 : zk_ml RX2 74 yX2_loadPart := Or.inl (zk_in 256 (by decide +kernel) (by decide +kernel))
theorem ml_X2_89 : zk_ml RX2 89 yX0_wordAt := Or.inl (zk_in 260 (by decide +kernel) (by decide +kernel))
theorem mm_X0_25 : Cond.methodLink RX0 25 Lib.Math.min.name ∈ zk_ws := (zk_in 264 (by decide +kernel) (by decide +kernel))
theorem mm_X2_61 : Cond.methodLink RX2 61 Lib.Math.min.name ∈ zk_ws := (zk_in 267 (by decide +kernel) (by decide +kernel))
theorem ml_X2_82 : zk_ml RX2 82 yX2_mix := Or.inl (zk_in 271 (by decide +kernel) (by decide +kernel))
theorem ml_X2_98 : zk_ml RX2 98 yX4_turnRight := Or.inr (zk_inN 277 (by decide +kernel) (by decide +kernel))
theorem ml_X2_86 : zk_ml RX2 86 yX2_foldPart := Or.inl (zk_in 280 (by decide +kernel) (by decide +kernel))
theorem ml_X2_55 : zk_ml RX2 55 yX2_give := Or.inl (zk_in 284 (by decide +kernel) (by decide +kernel))
theorem ml_X2_47 : zk_ml RX2 47 yX0_putNumber := Or.inl (zk_in 288 (by decide +kernel) (by decide +kernel))
theorem ml_X4_82 : zk_ml RX4 82 yX0_become := Or.inl (zk_in 289 (by decide +kernel) (by decide +kernel))
theorem ml_X0_36 : zk_ml RX0 36 yX0_empty := Or.inl (zk_in 293 (by decide +kernel) (by decide +kernel))
theorem ml_X0_39 : zk_ml RX0 39 yX0_putAll := Or.inl (zk_in 294 (by decide +kernel) (by decide +kernel))
theorem ml_L_39 : zk_ml RL 39 yX4_longHash := Or.inl (zk_in 295 (by decide +kernel) (by decide +kernel))
theorem ml_X4_85 : zk_ml RX4 85 yX2_openLong := Or.inl (zk_in 299 (by decide +kernel) (by decide +kernel))
theorem ml_X4_88 : zk_ml RX4 88 yX2_makeLong := Or.inl (zk_in 303 (by decide +kernel) (by decide +kernel))
theorem ml_X2_58 : zk_ml RX2 58 yX2_takeStateAsMessage := Or.inl (zk_in 307 (by decide +kernel) (by decide +kernel))
theorem ml_L_44 : zk_ml RL 44 yX4_begin := Or.inl (zk_in 311 (by decide +kernel) (by decide +kernel))
theorem ml_X4_91 : zk_ml RX4 91 yX1_isPossible := Or.inl (zk_in 315 (by decide +kernel) (by decide +kernel))
theorem ml_X4_95 : zk_ml RX4 95 yX1_restart := Or.inl (zk_in 318 (by decide +kernel) (by decide +kernel))
theorem ml_X1_30 : zk_ml RX1 30 yX1_isPossible := Or.inl (zk_in 322 (by decide +kernel) (by decide +kernel))
theorem ml_X4_99 : zk_ml RX4 99 yX1_putSettings := Or.inl (zk_in 323 (by decide +kernel) (by decide +kernel))
theorem ml_X1_56 : zk_ml RX1 56 yX0_putNumber := Or.inl (zk_in 327 (by decide +kernel) (by decide +kernel))
theorem ml_X4_103 : zk_ml RX4 103 yX4_putWithLength := Or.inl (zk_in 329 (by decide +kernel) (by decide +kernel))
theorem ml_X4_106 : zk_ml RX4 106 yX4_layFirstBlocks := Or.inl (zk_in 333 (by decide +kernel) (by decide +kernel))
theorem ml_X4_161 : zk_ml RX4 161 yX1_lay := Or.inl (zk_in 337 (by decide +kernel) (by decide +kernel))
theorem ml_X1_68 : zk_ml RX1 68 yX1_blockOf := Or.inl (zk_in 341 (by decide +kernel) (by decide +kernel))
theorem ml_X1_72 : zk_ml RX1 72 yX0_wordAt := Or.inl (zk_in 345 (by decide +kernel) (by decide +kernel))
theorem ml_X4_109 : zk_ml RX4 109 yX1_blocks := Or.inl (zk_in 346 (by decide +kernel) (by decide +kernel))
theorem ml_L_49 : zk_ml RL 49 yX4_fill := Or.inl (zk_in 350 (by decide +kernel) (by decide +kernel))
theorem ml_X4_113 : zk_ml RX4 113 yX1_isBegun := Or.inl (zk_in 354 (by decide +kernel) (by decide +kernel))
theorem ml_X4_117 : zk_ml RX4 117 yX1_segments := Or.inl (zk_in 358 (by decide +kernel) (by decide +kernel))
theorem mm_X4_123 : Cond.methodLink RX4 123 Lib.Math.min.name ∈ zk_ws := (zk_in 362 (by decide +kernel) (by decide +kernel))
theorem ml_X4_129 : zk_ml RX4 129 yX1_doSegment := Or.inl (zk_in 363 (by decide +kernel) (by decide +kernel))
theorem ml_X1_80 : zk_ml RX1 80 yX1_segments := Or.inl (zk_in 367 (by decide +kernel) (by decide +kernel))
theorem ml_X1_92 : zk_ml RX1 92 yX1_goesByAddress := Or.inl (zk_in 368 (by decide +kernel) (by decide +kernel))
theorem ml_X1_96 : zk_ml RX1 96 yX1_openAddress := Or.inl (zk_in 372 (by decide +kernel) (by decide +kernel))
theorem ml_X1_64 : zk_ml RX1 64 yX1_blocks := Or.inl (zk_in 376 (by decide +kernel) (by decide +kernel))
theorem ml_X1_99 : zk_ml RX1 99 yX3_join := Or.inl (zk_in 377 (by decide +kernel) (by decide +kernel))
theorem ml_X3_21 : zk_ml RX3 21 yX3_stir := Or.inl (zk_in 381 (by decide +kernel) (by decide +kernel))
theorem ml_X3_25 : zk_ml RX3 25 yX3_mixHard := Or.inl (zk_in 385 (by decide +kernel) (by decide +kernel))
theorem ml_X3_33 : zk_ml RX3 33 yX3_sumHard := Or.inl (zk_in 390 (by decide +kernel) (by decide +kernel))
theorem ml_X3_37 : zk_ml RX3 37 yX4_turnRight := Or.inr (zk_inN 395 (by decide +kernel) (by decide +kernel))
theorem ml_X1_103 : zk_ml RX1 103 yX1_isFirstSlice := Or.inl (zk_in 396 (by decide +kernel) (by decide +kernel))
theorem ml_X1_106 : zk_ml RX1 106 yX1_farBlock := Or.inl (zk_in 400 (by decide +kernel) (by decide +kernel))
theorem ml_L_53 : zk_ml RL 53 yX4_word := Or.inl (zk_in 405 (by decide +kernel) (by decide +kernel))
theorem ml_X4_132 : zk_ml RX4 132 yX1_wordOf := Or.inl (zk_in 409 (by decide +kernel) (by decide +kernel))
theorem ml_L_58 : zk_ml RL 58 yX4_tag := Or.inl (zk_in 413 (by decide +kernel) (by decide +kernel))
theorem ml_X4_139 : zk_ml RX4 139 yX1_putLastBlocks := Or.inl (zk_in 417 (by decide +kernel) (by decide +kernel))
theorem ml_X1_76 : zk_ml RX1 76 yX1_wordOf := Or.inl (zk_in 421 (by decide +kernel) (by decide +kernel))
theorem ml_L_62 : zk_ml RL 62 yX4_told := Or.inl (zk_in 422 (by decide +kernel) (by decide +kernel))
theorem ml_L_66 : zk_ml RL 66 yX4_seal := Or.inl (zk_in 426 (by decide +kernel) (by decide +kernel))
theorem ml_X4_151 : zk_ml RX4 151 yX4_begin := Or.inl (zk_in 430 (by decide +kernel) (by decide +kernel))
theorem ml_X4_155 : zk_ml RX4 155 yX4_fill := Or.inl (zk_in 431 (by decide +kernel) (by decide +kernel))
theorem ml_X4_158 : zk_ml RX4 158 yX4_tag := Or.inl (zk_in 432 (by decide +kernel) (by decide +kernel))
theorem ml_L_12 : zk_ml RL 12 yX5_init := Or.inl (zk_in 435 (by decide +kernel) (by decide +kernel))
theorem ml_L_19 : zk_ml RL 19 yX5_add := Or.inl (zk_in 510 (by decide +kernel) (by decide +kernel))
theorem ml_X5_58 : zk_ml RX5 58 yX5_isRegister := Or.inl (zk_in 514 (by decide +kernel) (by decide +kernel))
theorem ml_X5_54 : zk_ml RX5 54 yX5_in := Or.inl (zk_in 517 (by decide +kernel) (by decide +kernel))
theorem ml_L_24 : zk_ml RL 24 yX5_clear := Or.inl (zk_in 521 (by decide +kernel) (by decide +kernel))
theorem ml_L_28 : zk_ml RL 28 yX5_size := Or.inl (zk_in 525 (by decide +kernel) (by decide +kernel))
theorem ml_L_33 : zk_ml RL 33 yX5_at := Or.inl (zk_in 529 (by decide +kernel) (by decide +kernel))
theorem ml_L_38 : zk_ml RL 38 yX5_hash := Or.inl (zk_in 533 (by decide +kernel) (by decide +kernel))
theorem ml_X5_148 : zk_ml RX5 148 yX5_putRegister := Or.inl (zk_in 537 (by decide +kernel) (by decide +kernel))
theorem ml_X5_140 : zk_ml RX5 140 yX5_hashTo := Or.inl (zk_in 541 (by decide +kernel) (by decide +kernel))
theorem ml_X5_116 : zk_ml RX5 116 yX5_start := Or.inl (zk_in 545 (by decide +kernel) (by decide +kernel))
theorem ml_X5_136 : zk_ml RX5 136 yX5_part := Or.inl (zk_in 558 (by decide +kernel) (by decide +kernel))
theorem ml_X5_112 : zk_ml RX5 112 yX5_byteAt := Or.inl (zk_in 562 (by decide +kernel) (by decide +kernel))
theorem ml_X5_122 : zk_ml RX5 122 yX5_order := Or.inl (zk_in 567 (by decide +kernel) (by decide +kernel))
theorem ml_X5_125 : zk_ml RX5 125 yX5_picked := Or.inl (zk_in 580 (by decide +kernel) (by decide +kernel))
theorem ml_X5_128 : zk_ml RX5 128 yX5_mix := Or.inl (zk_in 585 (by decide +kernel) (by decide +kernel))
theorem ml_X5_100 : zk_ml RX5 100 yX5_turned := Or.inl (zk_in 589 (by decide +kernel) (by decide +kernel))
theorem ml_X5_152 : zk_ml RX5 152 yX5_give := Or.inl (zk_in 592 (by decide +kernel) (by decide +kernel))
theorem ml_L_43 : zk_ml RL 43 yX5_longHash := Or.inl (zk_in 596 (by decide +kernel) (by decide +kernel))
theorem ml_X5_155 : zk_ml RX5 155 yX5_longTo := Or.inl (zk_in 600 (by decide +kernel) (by decide +kernel))
theorem ml_X5_144 : zk_ml RX5 144 yX5_put := Or.inl (zk_in 604 (by decide +kernel) (by decide +kernel))
theorem ml_L_48 : zk_ml RL 48 yX5_begin := Or.inl (zk_in 608 (by decide +kernel) (by decide +kernel))
theorem ml_X5_158 : zk_ml RX5 158 yX5_isPerhaps := Or.inl (zk_in 612 (by decide +kernel) (by decide +kernel))
theorem ml_X5_185 : zk_ml RX5 185 yX5_putOwn := Or.inl (zk_in 616 (by decide +kernel) (by decide +kernel))
theorem ml_L_52 : zk_ml RL 52 yX5_fill := Or.inl (zk_in 620 (by decide +kernel) (by decide +kernel))
theorem ml_X5_228 : zk_ml RX5 228 yX5_fillSome := Or.inl (zk_in 624 (by decide +kernel) (by decide +kernel))
theorem ml_X5_224 : zk_ml RX5 224 yX5_segment := Or.inl (zk_in 628 (by decide +kernel) (by decide +kernel))
theorem ml_X5_217 : zk_ml RX5 217 yX5_makeAddress := Or.inl (zk_in 632 (by decide +kernel) (by decide +kernel))
theorem ml_X5_214 : zk_ml RX5 214 yX5_join := Or.inl (zk_in 637 (by decide +kernel) (by decide +kernel))
theorem ml_X5_208 : zk_ml RX5 208 yX5_stir := Or.inl (zk_in 641 (by decide +kernel) (by decide +kernel))
theorem ml_X5_204 : zk_ml RX5 204 yX5_quarter := Or.inl (zk_in 645 (by decide +kernel) (by decide +kernel))
theorem ml_X5_196 : zk_ml RX5 196 yX5_spot := Or.inl (zk_in 649 (by decide +kernel) (by decide +kernel))
theorem ml_X5_200 : zk_ml RX5 200 yX5_hard := Or.inl (zk_in 652 (by decide +kernel) (by decide +kernel))
theorem ml_X5_192 : zk_ml RX5 192 yX5_half := Or.inl (zk_in 657 (by decide +kernel) (by decide +kernel))
theorem ml_X5_220 : zk_ml RX5 220 yX5_farBlock := Or.inl (zk_in 661 (by decide +kernel) (by decide +kernel))
theorem ml_L_57 : zk_ml RL 57 yX5_word := Or.inl (zk_in 665 (by decide +kernel) (by decide +kernel))
theorem ml_L_61 : zk_ml RL 61 yX5_tag := Or.inl (zk_in 669 (by decide +kernel) (by decide +kernel))
theorem ml_X5_231 : zk_ml RX5 231 yX5_makeTag := Or.inl (zk_in 673 (by decide +kernel) (by decide +kernel))
theorem ml_L_65 : zk_ml RL 65 yX5_told := Or.inl (zk_in 677 (by decide +kernel) (by decide +kernel))
theorem ml_L_70 : zk_ml RL 70 yX5_seal := Or.inl (zk_in 681 (by decide +kernel) (by decide +kernel))
theorem ml_X5_234 : zk_ml RX5 234 yX5_begin := Or.inl (zk_in 685 (by decide +kernel) (by decide +kernel))
theorem mi_X0_empty : zk_mi yX0_empty cX0_empty 1 none 0 := ⟨(zk_in 210 (by decide +kernel) (by decide +kernel)), (zk_in 211 (by decide +kernel) (by decide +kernel)), (zk_in 37 (by decide +kernel) (by decide +kernel)), (zk_in 212 (by decide +kernel) (by decide +kernel)), ⟨by decide +kernel, by decide +kernel, by decide +kernel⟩⟩
theorem mi_X0_byteAt : zk_mi yX0_byteAt cX0_byteAt 2 (some .int) 1 := ⟨(zk_in 222 (by decide +kernel) (by decide +kernel)), (zk_in 223 (by decide +kernel) (by decide +kernel)), (zk_in 37 (by decide +kernel) (by decide +kernel)), (zk_in 224 (by decide +kernel) (by decide +kernel)), ⟨by decide +kernel, by decide +kernel, by decide +kernel⟩⟩
theorem mi_X0_wordAt : zk_mi yX0_wordAt cX0_wordAt 6 (some .long) 1 := ⟨(zk_in 261 (by decide +kernel) (by decide +kernel)), (zk_in 262 (by decide +kernel) (by decide +kernel)), (zk_in 37 (by decide +kernel) (by decide +kernel)), (zk_in 263 (by decide +kernel) (by decide +kernel)), ⟨by decide +kernel, by decide +kernel, by decide +kernel⟩⟩
theorem mi_X0_put : zk_mi yX0_put cX0_put 2 none 1 := ⟨(zk_in 202 (by decide +kernel) (by decide +kernel)), (zk_in 203 (by decide +kernel) (by decide +kernel)), (zk_in 37 (by decide +kernel) (by decide +kernel)), (zk_in 204 (by decide +kernel) (by decide +kernel)), ⟨by decide +kernel, by decide +kernel, by decide +kernel⟩⟩
theorem mi_X0_putNumber : zk_mi yX0_putNumber cX0_putNumber 5 none 2 := ⟨(zk_in 198 (by decide +kernel) (by decide +kernel)), (zk_in 199 (by decide +kernel) (by decide +kernel)), (zk_in 37 (by decide +kernel) (by decide +kernel)), (zk_in 200 (by decide +kernel) (by decide +kernel)), ⟨by decide +kernel, by decide +kernel, by decide +kernel⟩⟩
theorem mi_X0_putAll : zk_mi yX0_putAll cX0_putAll 3 none 1 := ⟨(zk_in 238 (by decide +kernel) (by decide +kernel)), (zk_in 239 (by decide +kernel) (by decide +kernel)), (zk_in 37 (by decide +kernel) (by decide +kernel)), (zk_in 240 (by decide +kernel) (by decide +kernel)), ⟨by decide +kernel, by decide +kernel, by decide +kernel⟩⟩
theorem mi_X0_become : zk_mi yX0_become cX0_become 2 none 1 := ⟨(zk_in 290 (by decide +kernel) (by decide +kernel)), (zk_in 291 (by decide +kernel) (by decide +kernel)), (zk_in 37 (by decide +kernel) (by decide +kernel)), (zk_in 292 (by decide +kernel) (by decide +kernel)), ⟨by decide +kernel, by decide +kernel, by decide +kernel⟩⟩
theorem ms_X1_isPossible : zk_ms yX1_isPossible cX1_isPossible 5 (some .boolean) 5 := ⟨(zk_in 316 (by decide +kernel) (by decide +kernel)), (zk_in 40 (by decide +kernel) (by decide +kernel)), (zk_in 317 (by decide +kernel) (by decide +kernel)), ⟨by decide +kernel, by decide +kernel, by decide +kernel⟩⟩
theorem mi_X1_restart : zk_mi yX1_restart cX1_restart 8 none 5 := ⟨(zk_in 319 (by decide +kernel) (by decide +kernel)), (zk_in 320 (by decide +kernel) (by decide +kernel)), (zk_in 40 (by decide +kernel) (by decide +kernel)), (zk_in 321 (by decide +kernel) (by decide +kernel)), ⟨by decide +kernel, by decide +kernel, by decide +kernel⟩⟩
theorem mi_X1_putSettings : zk_mi yX1_putSettings cX1_putSettings 3 none 2 := ⟨(zk_in 324 (by decide +kernel) (by decide +kernel)), (zk_in 325 (by decide +kernel) (by decide +kernel)), (zk_in 40 (by decide +kernel) (by decide +kernel)), (zk_in 326 (by decide +kernel) (by decide +kernel)), ⟨by decide +kernel, by decide +kernel, by decide +kernel⟩⟩
theorem mi_X1_isBegun : zk_mi yX1_isBegun cX1_isBegun 1 (some .boolean) 0 := ⟨(zk_in 355 (by decide +kernel) (by decide +kernel)), (zk_in 356 (by decide +kernel) (by decide +kernel)), (zk_in 40 (by decide +kernel) (by decide +kernel)), (zk_in 357 (by decide +kernel) (by decide +kernel)), ⟨by decide +kernel, by decide +kernel, by decide +kernel⟩⟩
theorem mi_X1_blocks : zk_mi yX1_blocks cX1_blocks 1 (some .int) 0 := ⟨(zk_in 347 (by decide +kernel) (by decide +kernel)), (zk_in 348 (by decide +kernel) (by decide +kernel)), (zk_in 40 (by decide +kernel) (by decide +kernel)), (zk_in 349 (by decide +kernel) (by decide +kernel)), ⟨by decide +kernel, by decide +kernel, by decide +kernel⟩⟩
theorem mi_X1_segments : zk_mi yX1_segments cX1_segments 1 (some .int) 0 := ⟨(zk_in 359 (by decide +kernel) (by decide +kernel)), (zk_in 360 (by decide +kernel) (by decide +kernel)), (zk_in 40 (by decide +kernel) (by decide +kernel)), (zk_in 361 (by decide +kernel) (by decide +kernel)), ⟨by decide +kernel, by decide +kernel, by decide +kernel⟩⟩
theorem mi_X1_wordOf : zk_mi yX1_wordOf cX1_wordOf 3 (some .long) 2 := ⟨(zk_in 410 (by decide +kernel) (by decide +kernel)), (zk_in 411 (by decide +kernel) (by decide +kernel)), (zk_in 40 (by decide +kernel) (by decide +kernel)), (zk_in 412 (by decide +kernel) (by decide +kernel)), ⟨by decide +kernel, by decide +kernel, by decide +kernel⟩⟩
theorem mi_X1_lay : zk_mi yX1_lay cX1_lay 6 none 3 := ⟨(zk_in 338 (by decide +kernel) (by decide +kernel)), (zk_in 339 (by decide +kernel) (by decide +kernel)), (zk_in 40 (by decide +kernel) (by decide +kernel)), (zk_in 340 (by decide +kernel) (by decide +kernel)), ⟨by decide +kernel, by decide +kernel, by decide +kernel⟩⟩
theorem mi_X1_putLastBlocks : zk_mi yX1_putLastBlocks cX1_putLastBlocks 6 none 1 := ⟨(zk_in 418 (by decide +kernel) (by decide +kernel)), (zk_in 419 (by decide +kernel) (by decide +kernel)), (zk_in 40 (by decide +kernel) (by decide +kernel)), (zk_in 420 (by decide +kernel) (by decide +kernel)), ⟨by decide +kernel, by decide +kernel, by decide +kernel⟩⟩
theorem mi_X1_doSegment : zk_mi yX1_doSegment cX1_doSegment 9 none 0 := ⟨(zk_in 364 (by decide +kernel) (by decide +kernel)), (zk_in 365 (by decide +kernel) (by decide +kernel)), (zk_in 40 (by decide +kernel) (by decide +kernel)), (zk_in 366 (by decide +kernel) (by decide +kernel)), ⟨by decide +kernel, by decide +kernel, by decide +kernel⟩⟩
theorem mi_X1_isFirstSlice : zk_mi yX1_isFirstSlice cX1_isFirstSlice 1 (some .boolean) 0 := ⟨(zk_in 398 (by decide +kernel) (by decide +kernel)), (zk_in 14 (by decide +kernel) (by decide +kernel)), (zk_in 40 (by decide +kernel) (by decide +kernel)), (zk_in 399 (by decide +kernel) (by decide +kernel)), ⟨by decide +kernel, by decide +kernel, by decide +kernel⟩⟩
theorem mi_X1_goesByAddress : zk_mi yX1_goesByAddress cX1_goesByAddress 1 (some .boolean) 0 := ⟨(zk_in 370 (by decide +kernel) (by decide +kernel)), (zk_in 10 (by decide +kernel) (by decide +kernel)), (zk_in 40 (by decide +kernel) (by decide +kernel)), (zk_in 371 (by decide +kernel) (by decide +kernel)), ⟨by decide +kernel, by decide +kernel, by decide +kernel⟩⟩
theorem mi_X1_openAddress : zk_mi yX1_openAddress cX1_openAddress 2 none 0 := ⟨(zk_in 374 (by decide +kernel) (by decide +kernel)), (zk_in 11 (by decide +kernel) (by decide +kernel)), (zk_in 40 (by decide +kernel) (by decide +kernel)), (zk_in 375 (by decide +kernel) (by decide +kernel)), ⟨by decide +kernel, by decide +kernel, by decide +kernel⟩⟩
theorem mi_X1_farBlock : zk_mi yX1_farBlock cX1_farBlock 15 (some .int) 2 := ⟨(zk_in 402 (by decide +kernel) (by decide +kernel)), (zk_in 15 (by decide +kernel) (by decide +kernel)), (zk_in 40 (by decide +kernel) (by decide +kernel)), (zk_in 403 (by decide +kernel) (by decide +kernel)), ⟨by decide +kernel, by decide +kernel, by decide +kernel⟩⟩
theorem mi_X1_blockOf : zk_mi yX1_blockOf cX1_blockOf 2 (some (.array .long)) 1 := ⟨(zk_in 343 (by decide +kernel) (by decide +kernel)), (zk_in 9 (by decide +kernel) (by decide +kernel)), (zk_in 40 (by decide +kernel) (by decide +kernel)), (zk_in 344 (by decide +kernel) (by decide +kernel)), ⟨by decide +kernel, by decide +kernel, by decide +kernel⟩⟩
theorem mi_X2_openWithKey : zk_mi yX2_openWithKey cX2_openWithKey 3 none 1 := ⟨(zk_in 233 (by decide +kernel) (by decide +kernel)), (zk_in 234 (by decide +kernel) (by decide +kernel)), (zk_in 39 (by decide +kernel) (by decide +kernel)), (zk_in 235 (by decide +kernel) (by decide +kernel)), ⟨by decide +kernel, by decide +kernel, by decide +kernel⟩⟩
theorem mi_X2_openLong : zk_mi yX2_openLong cX2_openLong 2 none 1 := ⟨(zk_in 300 (by decide +kernel) (by decide +kernel)), (zk_in 301 (by decide +kernel) (by decide +kernel)), (zk_in 39 (by decide +kernel) (by decide +kernel)), (zk_in 302 (by decide +kernel) (by decide +kernel)), ⟨by decide +kernel, by decide +kernel, by decide +kernel⟩⟩
theorem mi_X2_makeShort : zk_mi yX2_makeShort cX2_makeShort 3 none 2 := ⟨(zk_in 245 (by decide +kernel) (by decide +kernel)), (zk_in 246 (by decide +kernel) (by decide +kernel)), (zk_in 39 (by decide +kernel) (by decide +kernel)), (zk_in 247 (by decide +kernel) (by decide +kernel)), ⟨by decide +kernel, by decide +kernel, by decide +kernel⟩⟩
theorem mi_X2_makeLong : zk_mi yX2_makeLong cX2_makeLong 3 none 1 := ⟨(zk_in 304 (by decide +kernel) (by decide +kernel)), (zk_in 305 (by decide +kernel) (by decide +kernel)), (zk_in 39 (by decide +kernel) (by decide +kernel)), (zk_in 306 (by decide +kernel) (by decide +kernel)), ⟨by decide +kernel, by decide +kernel, by decide +kernel⟩⟩
theorem mi_X2_takeStateAsMessage : zk_mi yX2_takeStateAsMessage cX2_takeStateAsMessage 2 none 0 := ⟨(zk_in 309 (by decide +kernel) (by decide +kernel)), (zk_in 6 (by decide +kernel) (by decide +kernel)), (zk_in 39 (by decide +kernel) (by decide +kernel)), (zk_in 310 (by decide +kernel) (by decide +kernel)), ⟨by decide +kernel, by decide +kernel, by decide +kernel⟩⟩
theorem mi_X2_give : zk_mi yX2_give cX2_give 3 none 1 := ⟨(zk_in 286 (by decide +kernel) (by decide +kernel)), (zk_in 5 (by decide +kernel) (by decide +kernel)), (zk_in 39 (by decide +kernel) (by decide +kernel)), (zk_in 287 (by decide +kernel) (by decide +kernel)), ⟨by decide +kernel, by decide +kernel, by decide +kernel⟩⟩
theorem mi_X2_digest : zk_mi yX2_digest cX2_digest 8 none 2 := ⟨(zk_in 250 (by decide +kernel) (by decide +kernel)), (zk_in 1 (by decide +kernel) (by decide +kernel)), (zk_in 39 (by decide +kernel) (by decide +kernel)), (zk_in 251 (by decide +kernel) (by decide +kernel)), ⟨by decide +kernel, by decide +kernel, by decide +kernel⟩⟩
theorem mi_X2_loadPart : zk_mi yX2_loadPart cX2_loadPart 4 none 2 := ⟨(zk_in 258 (by decide +kernel) (by decide +kernel)), (zk_in 2 (by decide +kernel) (by decide +kernel)), (zk_in 39 (by decide +kernel) (by decide +kernel)), (zk_in 259 (by decide +kernel) (by decide +kernel)), ⟨by decide +kernel, by decide +kernel, by decide +kernel⟩⟩
theorem mi_X2_foldPart : zk_mi yX2_foldPart cX2_foldPart 2 none 0 := ⟨(zk_in 282 (by decide +kernel) (by decide +kernel)), (zk_in 4 (by decide +kernel) (by decide +kernel)), (zk_in 39 (by decide +kernel) (by decide +kernel)), (zk_in 283 (by decide +kernel) (by decide +kernel)), ⟨by decide +kernel, by decide +kernel, by decide +kernel⟩⟩
theorem mi_X2_mix : zk_mi yX2_mix cX2_mix 10 none 3 := ⟨(zk_in 273 (by decide +kernel) (by decide +kernel)), (zk_in 3 (by decide +kernel) (by decide +kernel)), (zk_in 39 (by decide +kernel) (by decide +kernel)), (zk_in 274 (by decide +kernel) (by decide +kernel)), ⟨by decide +kernel, by decide +kernel, by decide +kernel⟩⟩
theorem mi_X3_join : zk_mi yX3_join cX3_join 8 none 4 := ⟨(zk_in 378 (by decide +kernel) (by decide +kernel)), (zk_in 379 (by decide +kernel) (by decide +kernel)), (zk_in 41 (by decide +kernel) (by decide +kernel)), (zk_in 380 (by decide +kernel) (by decide +kernel)), ⟨by decide +kernel, by decide +kernel, by decide +kernel⟩⟩
theorem mi_X3_stir : zk_mi yX3_stir cX3_stir 4 none 2 := ⟨(zk_in 383 (by decide +kernel) (by decide +kernel)), (zk_in 12 (by decide +kernel) (by decide +kernel)), (zk_in 41 (by decide +kernel) (by decide +kernel)), (zk_in 384 (by decide +kernel) (by decide +kernel)), ⟨by decide +kernel, by decide +kernel, by decide +kernel⟩⟩
theorem mi_X3_mixHard : zk_mi yX3_mixHard cX3_mixHard 6 none 1 := ⟨(zk_in 387 (by decide +kernel) (by decide +kernel)), (zk_in 13 (by decide +kernel) (by decide +kernel)), (zk_in 41 (by decide +kernel) (by decide +kernel)), (zk_in 388 (by decide +kernel) (by decide +kernel)), ⟨by decide +kernel, by decide +kernel, by decide +kernel⟩⟩
theorem ms_X3_sumHard : zk_ms yX3_sumHard cX3_sumHard 4 (some .long) 2 := ⟨(zk_in 391 (by decide +kernel) (by decide +kernel)), (zk_in 41 (by decide +kernel) (by decide +kernel)), (zk_in 392 (by decide +kernel) (by decide +kernel)), ⟨by decide +kernel, by decide +kernel, by decide +kernel⟩⟩
theorem mi_X4_add : zk_mi yX4_add cX4_add 6 (some .int) 3 := ⟨(zk_in 187 (by decide +kernel) (by decide +kernel)), (zk_in 188 (by decide +kernel) (by decide +kernel)), (zk_in 36 (by decide +kernel) (by decide +kernel)), (zk_in 189 (by decide +kernel) (by decide +kernel)), ⟨by decide +kernel, by decide +kernel, by decide +kernel⟩⟩
theorem mi_X4_clear : zk_mi yX4_clear cX4_clear 4 (some .int) 1 := ⟨(zk_in 206 (by decide +kernel) (by decide +kernel)), (zk_in 207 (by decide +kernel) (by decide +kernel)), (zk_in 36 (by decide +kernel) (by decide +kernel)), (zk_in 208 (by decide +kernel) (by decide +kernel)), ⟨by decide +kernel, by decide +kernel, by decide +kernel⟩⟩
theorem mi_X4_size : zk_mi yX4_size cX4_size 2 (some .int) 1 := ⟨(zk_in 214 (by decide +kernel) (by decide +kernel)), (zk_in 215 (by decide +kernel) (by decide +kernel)), (zk_in 36 (by decide +kernel) (by decide +kernel)), (zk_in 216 (by decide +kernel) (by decide +kernel)), ⟨by decide +kernel, by decide +kernel, by decide +kernel⟩⟩
theorem mi_X4_at : zk_mi yX4_at cX4_at 3 (some .int) 2 := ⟨(zk_in 218 (by decide +kernel) (by decide +kernel)), (zk_in 219 (by decide +kernel) (by decide +kernel)), (zk_in 36 (by decide +kernel) (by decide +kernel)), (zk_in 220 (by decide +kernel) (by decide +kernel)), ⟨by decide +kernel, by decide +kernel, by decide +kernel⟩⟩
theorem mi_X4_hash : zk_mi yX4_hash cX4_hash 6 (some .int) 4 := ⟨(zk_in 226 (by decide +kernel) (by decide +kernel)), (zk_in 227 (by decide +kernel) (by decide +kernel)), (zk_in 36 (by decide +kernel) (by decide +kernel)), (zk_in 228 (by decide +kernel) (by decide +kernel)), ⟨by decide +kernel, by decide +kernel, by decide +kernel⟩⟩
theorem mi_X4_longHash : zk_mi yX4_longHash cX4_longHash 4 (some .int) 3 := ⟨(zk_in 296 (by decide +kernel) (by decide +kernel)), (zk_in 297 (by decide +kernel) (by decide +kernel)), (zk_in 36 (by decide +kernel) (by decide +kernel)), (zk_in 298 (by decide +kernel) (by decide +kernel)), ⟨by decide +kernel, by decide +kernel, by decide +kernel⟩⟩
theorem mi_X4_begin : zk_mi yX4_begin cX4_begin 10 (some .int) 9 := ⟨(zk_in 312 (by decide +kernel) (by decide +kernel)), (zk_in 313 (by decide +kernel) (by decide +kernel)), (zk_in 36 (by decide +kernel) (by decide +kernel)), (zk_in 314 (by decide +kernel) (by decide +kernel)), ⟨by decide +kernel, by decide +kernel, by decide +kernel⟩⟩
theorem mi_X4_fill : zk_mi yX4_fill cX4_fill 4 (some .int) 1 := ⟨(zk_in 351 (by decide +kernel) (by decide +kernel)), (zk_in 352 (by decide +kernel) (by decide +kernel)), (zk_in 36 (by decide +kernel) (by decide +kernel)), (zk_in 353 (by decide +kernel) (by decide +kernel)), ⟨by decide +kernel, by decide +kernel, by decide +kernel⟩⟩
theorem mi_X4_word : zk_mi yX4_word cX4_word 3 (some .long) 2 := ⟨(zk_in 406 (by decide +kernel) (by decide +kernel)), (zk_in 407 (by decide +kernel) (by decide +kernel)), (zk_in 36 (by decide +kernel) (by decide +kernel)), (zk_in 408 (by decide +kernel) (by decide +kernel)), ⟨by decide +kernel, by decide +kernel, by decide +kernel⟩⟩
theorem mi_X4_tag : zk_mi yX4_tag cX4_tag 2 (some .int) 1 := ⟨(zk_in 414 (by decide +kernel) (by decide +kernel)), (zk_in 415 (by decide +kernel) (by decide +kernel)), (zk_in 36 (by decide +kernel) (by decide +kernel)), (zk_in 416 (by decide +kernel) (by decide +kernel)), ⟨by decide +kernel, by decide +kernel, by decide +kernel⟩⟩
theorem mi_X4_told : zk_mi yX4_told cX4_told 2 (some .int) 1 := ⟨(zk_in 423 (by decide +kernel) (by decide +kernel)), (zk_in 424 (by decide +kernel) (by decide +kernel)), (zk_in 36 (by decide +kernel) (by decide +kernel)), (zk_in 425 (by decide +kernel) (by decide +kernel)), ⟨by decide +kernel, by decide +kernel, by decide +kernel⟩⟩
theorem mi_X4_seal : zk_mi yX4_seal cX4_seal 10 (some .int) 8 := ⟨(zk_in 427 (by decide +kernel) (by decide +kernel)), (zk_in 428 (by decide +kernel) (by decide +kernel)), (zk_in 36 (by decide +kernel) (by decide +kernel)), (zk_in 429 (by decide +kernel) (by decide +kernel)), ⟨by decide +kernel, by decide +kernel, by decide +kernel⟩⟩
theorem ms_X4_isRegister : zk_ms yX4_isRegister cX4_isRegister 1 (some .boolean) 1 := ⟨(zk_in 191 (by decide +kernel) (by decide +kernel)), (zk_in 36 (by decide +kernel) (by decide +kernel)), (zk_in 192 (by decide +kernel) (by decide +kernel)), ⟨by decide +kernel, by decide +kernel, by decide +kernel⟩⟩
theorem ms_X4_isRegisterOrNone : zk_ms yX4_isRegisterOrNone cX4_isRegisterOrNone 1 (some .boolean) 1 := ⟨(zk_in 230 (by decide +kernel) (by decide +kernel)), (zk_in 36 (by decide +kernel) (by decide +kernel)), (zk_in 231 (by decide +kernel) (by decide +kernel)), ⟨by decide +kernel, by decide +kernel, by decide +kernel⟩⟩
theorem mi_X4_bytesOf : zk_mi yX4_bytesOf cX4_bytesOf 2 (some (.object "SlowSeal$Bytes")) 1 := ⟨(zk_in 195 (by decide +kernel) (by decide +kernel)), (zk_in 0 (by decide +kernel) (by decide +kernel)), (zk_in 36 (by decide +kernel) (by decide +kernel)), (zk_in 196 (by decide +kernel) (by decide +kernel)), ⟨by decide +kernel, by decide +kernel, by decide +kernel⟩⟩
theorem mi_X4_putWithLength : zk_mi yX4_putWithLength cX4_putWithLength 3 none 1 := ⟨(zk_in 331 (by decide +kernel) (by decide +kernel)), (zk_in 7 (by decide +kernel) (by decide +kernel)), (zk_in 36 (by decide +kernel) (by decide +kernel)), (zk_in 332 (by decide +kernel) (by decide +kernel)), ⟨by decide +kernel, by decide +kernel, by decide +kernel⟩⟩
theorem mi_X4_layFirstBlocks : zk_mi yX4_layFirstBlocks cX4_layFirstBlocks 3 none 0 := ⟨(zk_in 335 (by decide +kernel) (by decide +kernel)), (zk_in 8 (by decide +kernel) (by decide +kernel)), (zk_in 36 (by decide +kernel) (by decide +kernel)), (zk_in 336 (by decide +kernel) (by decide +kernel)), ⟨by decide +kernel, by decide +kernel, by decide +kernel⟩⟩
theorem ms_X4_turnRight : zk_ms yX4_turnRight cX4_turnRight 3 (some .long) 2 := ⟨(zk_in 278 (by decide +kernel) (by decide +kernel)), (zk_in 36 (by decide +kernel) (by decide +kernel)), (zk_in 279 (by decide +kernel) (by decide +kernel)), ⟨by decide +kernel, by decide +kernel, by decide +kernel⟩⟩
theorem ms_X5_in : zk_ms yX5_in cX5_in 3 (some .boolean) 3 := ⟨(zk_in 518 (by decide +kernel) (by decide +kernel)), (zk_in 42 (by decide +kernel) (by decide +kernel)), (zk_in 519 (by decide +kernel) (by decide +kernel)), ⟨by decide +kernel, by decide +kernel, by decide +kernel⟩⟩
theorem ms_X5_isRegister : zk_ms yX5_isRegister cX5_isRegister 1 (some .boolean) 1 := ⟨(zk_in 515 (by decide +kernel) (by decide +kernel)), (zk_in 42 (by decide +kernel) (by decide +kernel)), (zk_in 516 (by decide +kernel) (by decide +kernel)), ⟨by decide +kernel, by decide +kernel, by decide +kernel⟩⟩
theorem mi_X5_add : zk_mi yX5_add cX5_add 6 (some .int) 3 := ⟨(zk_in 511 (by decide +kernel) (by decide +kernel)), (zk_in 512 (by decide +kernel) (by decide +kernel)), (zk_in 42 (by decide +kernel) (by decide +kernel)), (zk_in 513 (by decide +kernel) (by decide +kernel)), ⟨by decide +kernel, by decide +kernel, by decide +kernel⟩⟩
theorem mi_X5_clear : zk_mi yX5_clear cX5_clear 3 (some .int) 1 := ⟨(zk_in 522 (by decide +kernel) (by decide +kernel)), (zk_in 523 (by decide +kernel) (by decide +kernel)), (zk_in 42 (by decide +kernel) (by decide +kernel)), (zk_in 524 (by decide +kernel) (by decide +kernel)), ⟨by decide +kernel, by decide +kernel, by decide +kernel⟩⟩
theorem mi_X5_size : zk_mi yX5_size cX5_size 2 (some .int) 1 := ⟨(zk_in 526 (by decide +kernel) (by decide +kernel)), (zk_in 527 (by decide +kernel) (by decide +kernel)), (zk_in 42 (by decide +kernel) (by decide +kernel)), (zk_in 528 (by decide +kernel) (by decide +kernel)), ⟨by decide +kernel, by decide +kernel, by decide +kernel⟩⟩
theorem mi_X5_at : zk_mi yX5_at cX5_at 3 (some .int) 2 := ⟨(zk_in 530 (by decide +kernel) (by decide +kernel)), (zk_in 531 (by decide +kernel) (by decide +kernel)), (zk_in 42 (by decide +kernel) (by decide +kernel)), (zk_in 532 (by decide +kernel) (by decide +kernel)), ⟨by decide +kernel, by decide +kernel, by decide +kernel⟩⟩
theorem mi_X5_give : zk_mi yX5_give cX5_give 4 none 2 := ⟨(zk_in 594 (by decide +kernel) (by decide +kernel)), (zk_in 22 (by decide +kernel) (by decide +kernel)), (zk_in 42 (by decide +kernel) (by decide +kernel)), (zk_in 595 (by decide +kernel) (by decide +kernel)), ⟨by decide +kernel, by decide +kernel, by decide +kernel⟩⟩
theorem ms_X5_start : zk_ms yX5_start cX5_start 1 (some .long) 1 := ⟨(zk_in 546 (by decide +kernel) (by decide +kernel)), (zk_in 42 (by decide +kernel) (by decide +kernel)), (zk_in 547 (by decide +kernel) (by decide +kernel)), ⟨by decide +kernel, by decide +kernel, by decide +kernel⟩⟩
theorem ms_X5_order : zk_ms yX5_order cX5_order 1 (some .long) 1 := ⟨(zk_in 568 (by decide +kernel) (by decide +kernel)), (zk_in 42 (by decide +kernel) (by decide +kernel)), (zk_in 569 (by decide +kernel) (by decide +kernel)), ⟨by decide +kernel, by decide +kernel, by decide +kernel⟩⟩
theorem ms_X5_turned : zk_ms yX5_turned cX5_turned 3 (some .long) 2 := ⟨(zk_in 590 (by decide +kernel) (by decide +kernel)), (zk_in 42 (by decide +kernel) (by decide +kernel)), (zk_in 591 (by decide +kernel) (by decide +kernel)), ⟨by decide +kernel, by decide +kernel, by decide +kernel⟩⟩
theorem mi_X5_mix : zk_mi yX5_mix cX5_mix 9 none 6 := ⟨(zk_in 587 (by decide +kernel) (by decide +kernel)), (zk_in 21 (by decide +kernel) (by decide +kernel)), (zk_in 42 (by decide +kernel) (by decide +kernel)), (zk_in 588 (by decide +kernel) (by decide +kernel)), ⟨by decide +kernel, by decide +kernel, by decide +kernel⟩⟩
theorem mi_X5_picked : zk_mi yX5_picked cX5_picked 4 (some .long) 2 := ⟨(zk_in 582 (by decide +kernel) (by decide +kernel)), (zk_in 20 (by decide +kernel) (by decide +kernel)), (zk_in 42 (by decide +kernel) (by decide +kernel)), (zk_in 583 (by decide +kernel) (by decide +kernel)), ⟨by decide +kernel, by decide +kernel, by decide +kernel⟩⟩
theorem mi_X5_byteAt : zk_mi yX5_byteAt cX5_byteAt 3 (some .int) 1 := ⟨(zk_in 564 (by decide +kernel) (by decide +kernel)), (zk_in 19 (by decide +kernel) (by decide +kernel)), (zk_in 42 (by decide +kernel) (by decide +kernel)), (zk_in 565 (by decide +kernel) (by decide +kernel)), ⟨by decide +kernel, by decide +kernel, by decide +kernel⟩⟩
theorem mi_X5_part : zk_mi yX5_part cX5_part 7 none 3 := ⟨(zk_in 560 (by decide +kernel) (by decide +kernel)), (zk_in 18 (by decide +kernel) (by decide +kernel)), (zk_in 42 (by decide +kernel) (by decide +kernel)), (zk_in 561 (by decide +kernel) (by decide +kernel)), ⟨by decide +kernel, by decide +kernel, by decide +kernel⟩⟩
theorem mi_X5_hashTo : zk_mi yX5_hashTo cX5_hashTo 7 none 2 := ⟨(zk_in 543 (by decide +kernel) (by decide +kernel)), (zk_in 17 (by decide +kernel) (by decide +kernel)), (zk_in 42 (by decide +kernel) (by decide +kernel)), (zk_in 544 (by decide +kernel) (by decide +kernel)), ⟨by decide +kernel, by decide +kernel, by decide +kernel⟩⟩
theorem mi_X5_put : zk_mi yX5_put cX5_put 5 none 2 := ⟨(zk_in 606 (by decide +kernel) (by decide +kernel)), (zk_in 24 (by decide +kernel) (by decide +kernel)), (zk_in 42 (by decide +kernel) (by decide +kernel)), (zk_in 607 (by decide +kernel) (by decide +kernel)), ⟨by decide +kernel, by decide +kernel, by decide +kernel⟩⟩
theorem mi_X5_putRegister : zk_mi yX5_putRegister cX5_putRegister 3 none 1 := ⟨(zk_in 539 (by decide +kernel) (by decide +kernel)), (zk_in 16 (by decide +kernel) (by decide +kernel)), (zk_in 42 (by decide +kernel) (by decide +kernel)), (zk_in 540 (by decide +kernel) (by decide +kernel)), ⟨by decide +kernel, by decide +kernel, by decide +kernel⟩⟩
theorem mi_X5_longTo : zk_mi yX5_longTo cX5_longTo 4 none 1 := ⟨(zk_in 602 (by decide +kernel) (by decide +kernel)), (zk_in 23 (by decide +kernel) (by decide +kernel)), (zk_in 42 (by decide +kernel) (by decide +kernel)), (zk_in 603 (by decide +kernel) (by decide +kernel)), ⟨by decide +kernel, by decide +kernel, by decide +kernel⟩⟩
theorem mi_X5_hash : zk_mi yX5_hash cX5_hash 6 (some .int) 4 := ⟨(zk_in 534 (by decide +kernel) (by decide +kernel)), (zk_in 535 (by decide +kernel) (by decide +kernel)), (zk_in 42 (by decide +kernel) (by decide +kernel)), (zk_in 536 (by decide +kernel) (by decide +kernel)), ⟨by decide +kernel, by decide +kernel, by decide +kernel⟩⟩
theorem mi_X5_longHash : zk_mi yX5_longHash cX5_longHash 4 (some .int) 3 := ⟨(zk_in 597 (by decide +kernel) (by decide +kernel)), (zk_in 598 (by decide +kernel) (by decide +kernel)), (zk_in 42 (by decide +kernel) (by decide +kernel)), (zk_in 599 (by decide +kernel) (by decide +kernel)), ⟨by decide +kernel, by decide +kernel, by decide +kernel⟩⟩
theorem mi_X5_putOwn : zk_mi yX5_putOwn cX5_putOwn 2 none 1 := ⟨(zk_in 618 (by decide +kernel) (by decide +kernel)), (zk_in 25 (by decide +kernel) (by decide +kernel)), (zk_in 42 (by decide +kernel) (by decide +kernel)), (zk_in 619 (by decide +kernel) (by decide +kernel)), ⟨by decide +kernel, by decide +kernel, by decide +kernel⟩⟩
theorem ms_X5_isPerhaps : zk_ms yX5_isPerhaps cX5_isPerhaps 1 (some .boolean) 1 := ⟨(zk_in 613 (by decide +kernel) (by decide +kernel)), (zk_in 42 (by decide +kernel) (by decide +kernel)), (zk_in 614 (by decide +kernel) (by decide +kernel)), ⟨by decide +kernel, by decide +kernel, by decide +kernel⟩⟩
theorem mi_X5_begin : zk_mi yX5_begin cX5_begin 13 (some .int) 9 := ⟨(zk_in 609 (by decide +kernel) (by decide +kernel)), (zk_in 610 (by decide +kernel) (by decide +kernel)), (zk_in 42 (by decide +kernel) (by decide +kernel)), (zk_in 611 (by decide +kernel) (by decide +kernel)), ⟨by decide +kernel, by decide +kernel, by decide +kernel⟩⟩
theorem ms_X5_half : zk_ms yX5_half cX5_half 2 (some .long) 1 := ⟨(zk_in 658 (by decide +kernel) (by decide +kernel)), (zk_in 42 (by decide +kernel) (by decide +kernel)), (zk_in 659 (by decide +kernel) (by decide +kernel)), ⟨by decide +kernel, by decide +kernel, by decide +kernel⟩⟩
theorem mi_X5_hard : zk_mi yX5_hard cX5_hard 13 none 4 := ⟨(zk_in 654 (by decide +kernel) (by decide +kernel)), (zk_in 32 (by decide +kernel) (by decide +kernel)), (zk_in 42 (by decide +kernel) (by decide +kernel)), (zk_in 655 (by decide +kernel) (by decide +kernel)), ⟨by decide +kernel, by decide +kernel, by decide +kernel⟩⟩
theorem ms_X5_spot : zk_ms yX5_spot cX5_spot 3 (some .int) 3 := ⟨(zk_in 650 (by decide +kernel) (by decide +kernel)), (zk_in 42 (by decide +kernel) (by decide +kernel)), (zk_in 651 (by decide +kernel) (by decide +kernel)), ⟨by decide +kernel, by decide +kernel, by decide +kernel⟩⟩
theorem mi_X5_quarter : zk_mi yX5_quarter cX5_quarter 7 none 6 := ⟨(zk_in 647 (by decide +kernel) (by decide +kernel)), (zk_in 31 (by decide +kernel) (by decide +kernel)), (zk_in 42 (by decide +kernel) (by decide +kernel)), (zk_in 648 (by decide +kernel) (by decide +kernel)), ⟨by decide +kernel, by decide +kernel, by decide +kernel⟩⟩
theorem mi_X5_stir : zk_mi yX5_stir cX5_stir 3 none 2 := ⟨(zk_in 643 (by decide +kernel) (by decide +kernel)), (zk_in 30 (by decide +kernel) (by decide +kernel)), (zk_in 42 (by decide +kernel) (by decide +kernel)), (zk_in 644 (by decide +kernel) (by decide +kernel)), ⟨by decide +kernel, by decide +kernel, by decide +kernel⟩⟩
theorem mi_X5_join : zk_mi yX5_join cX5_join 2 none 0 := ⟨(zk_in 639 (by decide +kernel) (by decide +kernel)), (zk_in 29 (by decide +kernel) (by decide +kernel)), (zk_in 42 (by decide +kernel) (by decide +kernel)), (zk_in 640 (by decide +kernel) (by decide +kernel)), ⟨by decide +kernel, by decide +kernel, by decide +kernel⟩⟩
theorem mi_X5_makeAddress : zk_mi yX5_makeAddress cX5_makeAddress 6 none 4 := ⟨(zk_in 634 (by decide +kernel) (by decide +kernel)), (zk_in 28 (by decide +kernel) (by decide +kernel)), (zk_in 42 (by decide +kernel) (by decide +kernel)), (zk_in 635 (by decide +kernel) (by decide +kernel)), ⟨by decide +kernel, by decide +kernel, by decide +kernel⟩⟩
theorem mi_X5_farBlock : zk_mi yX5_farBlock cX5_farBlock 19 (some .int) 5 := ⟨(zk_in 663 (by decide +kernel) (by decide +kernel)), (zk_in 33 (by decide +kernel) (by decide +kernel)), (zk_in 42 (by decide +kernel) (by decide +kernel)), (zk_in 664 (by decide +kernel) (by decide +kernel)), ⟨by decide +kernel, by decide +kernel, by decide +kernel⟩⟩
theorem mi_X5_segment : zk_mi yX5_segment cX5_segment 12 none 3 := ⟨(zk_in 630 (by decide +kernel) (by decide +kernel)), (zk_in 27 (by decide +kernel) (by decide +kernel)), (zk_in 42 (by decide +kernel) (by decide +kernel)), (zk_in 631 (by decide +kernel) (by decide +kernel)), ⟨by decide +kernel, by decide +kernel, by decide +kernel⟩⟩
theorem mi_X5_fillSome : zk_mi yX5_fillSome cX5_fillSome 3 (some .int) 1 := ⟨(zk_in 626 (by decide +kernel) (by decide +kernel)), (zk_in 26 (by decide +kernel) (by decide +kernel)), (zk_in 42 (by decide +kernel) (by decide +kernel)), (zk_in 627 (by decide +kernel) (by decide +kernel)), ⟨by decide +kernel, by decide +kernel, by decide +kernel⟩⟩
theorem mi_X5_fill : zk_mi yX5_fill cX5_fill 2 (some .int) 1 := ⟨(zk_in 621 (by decide +kernel) (by decide +kernel)), (zk_in 622 (by decide +kernel) (by decide +kernel)), (zk_in 42 (by decide +kernel) (by decide +kernel)), (zk_in 623 (by decide +kernel) (by decide +kernel)), ⟨by decide +kernel, by decide +kernel, by decide +kernel⟩⟩
theorem mi_X5_word : zk_mi yX5_word cX5_word 3 (some .long) 2 := ⟨(zk_in 666 (by decide +kernel) (by decide +kernel)), (zk_in 667 (by decide +kernel) (by decide +kernel)), (zk_in 42 (by decide +kernel) (by decide +kernel)), (zk_in 668 (by decide +kernel) (by decide +kernel)), ⟨by decide +kernel, by decide +kernel, by decide +kernel⟩⟩
theorem mi_X5_makeTag : zk_mi yX5_makeTag cX5_makeTag 3 none 0 := ⟨(zk_in 675 (by decide +kernel) (by decide +kernel)), (zk_in 34 (by decide +kernel) (by decide +kernel)), (zk_in 42 (by decide +kernel) (by decide +kernel)), (zk_in 676 (by decide +kernel) (by decide +kernel)), ⟨by decide +kernel, by decide +kernel, by decide +kernel⟩⟩
theorem mi_X5_tag : zk_mi yX5_tag cX5_tag 2 (some .int) 1 := ⟨(zk_in 670 (by decide +kernel) (by decide +kernel)), (zk_in 671 (by decide +kernel) (by decide +kernel)), (zk_in 42 (by decide +kernel) (by decide +kernel)), (zk_in 672 (by decide +kernel) (by decide +kernel)), ⟨by decide +kernel, by decide +kernel, by decide +kernel⟩⟩
theorem mi_X5_told : zk_mi yX5_told cX5_told 2 (some .int) 1 := ⟨(zk_in 678 (by decide +kernel) (by decide +kernel)), (zk_in 679 (by decide +kernel) (by decide +kernel)), (zk_in 42 (by decide +kernel) (by decide +kernel)), (zk_in 680 (by decide +kernel) (by decide +kernel)), ⟨by decide +kernel, by decide +kernel, by decide +kernel⟩⟩
theorem mi_X5_seal : zk_mi yX5_seal cX5_seal 9 (some .int) 8 := ⟨(zk_in 682 (by decide +kernel) (by decide +kernel)), (zk_in 683 (by decide +kernel) (by decide +kernel)), (zk_in 42 (by decide +kernel) (by decide +kernel)), (zk_in 684 (by decide +kernel) (by decide +kernel)), ⟨by decide +kernel, by decide +kernel, by decide +kernel⟩⟩
theorem mmin_ws : Cond.static Lib.Math.min.name ∈ zk_ws ∧ Cond.initialized "java/lang/Math" ∈ zk_ws ∧ Cond.code Lib.Math.min.name Lib.Math.min.code 2 (some .int) ∈ zk_ws := ⟨(zk_in 265 (by decide +kernel) (by decide +kernel)), (zk_in 38 (by decide +kernel) (by decide +kernel)), (zk_in 266 (by decide +kernel) (by decide +kernel))⟩
theorem mmax_ws : Cond.static Lib.Math.max.name ∈ zk_ws ∧ Cond.initialized "java/lang/Math" ∈ zk_ws ∧ Cond.code Lib.Math.max.name Lib.Math.max.code 2 (some .int) ∈ zk_ws := ⟨(zk_in 59 (by decide +kernel) (by decide +kernel)), (zk_in 38 (by decide +kernel) (by decide +kernel)), (zk_in 60 (by decide +kernel) (by decide +kernel))⟩
theorem kl_X2_93 : Jvm.Cond.constantLong RX2 93 (-1) ∈ zk_ws := (zk_in 268 (by decide +kernel) (by decide +kernel))
theorem kl_X1_62 : Jvm.Cond.constantLong RX1 62 19 ∈ zk_ws := (zk_in 328 (by decide +kernel) (by decide +kernel))
theorem kl_X3_41 : Jvm.Cond.constantLong RX3 41 2 ∈ zk_ws := (zk_in 393 (by decide +kernel) (by decide +kernel))
theorem kl_X3_43 : Jvm.Cond.constantLong RX3 43 4294967295 ∈ zk_ws := (zk_in 394 (by decide +kernel) (by decide +kernel))
theorem kl_X1_110 : Jvm.Cond.constantLong RX1 110 4294967295 ∈ zk_ws := (zk_in 404 (by decide +kernel) (by decide +kernel))
theorem kl_X5_62 : Jvm.Cond.constantLong RX5 62 255 ∈ zk_ws := (zk_in 520 (by decide +kernel) (by decide +kernel))
theorem kl_X5_64 : Jvm.Cond.constantLong RX5 64 7640891576956012808 ∈ zk_ws := (zk_in 548 (by decide +kernel) (by decide +kernel))
theorem kl_X5_66 : Jvm.Cond.constantLong RX5 66 (-4942790177534073029) ∈ zk_ws := (zk_in 549 (by decide +kernel) (by decide +kernel))
theorem kl_X5_68 : Jvm.Cond.constantLong RX5 68 4354685564936845355 ∈ zk_ws := (zk_in 550 (by decide +kernel) (by decide +kernel))
theorem kl_X5_70 : Jvm.Cond.constantLong RX5 70 (-6534734903238641935) ∈ zk_ws := (zk_in 551 (by decide +kernel) (by decide +kernel))
theorem kl_X5_72 : Jvm.Cond.constantLong RX5 72 5840696475078001361 ∈ zk_ws := (zk_in 552 (by decide +kernel) (by decide +kernel))
theorem kl_X5_74 : Jvm.Cond.constantLong RX5 74 (-7276294671716946913) ∈ zk_ws := (zk_in 553 (by decide +kernel) (by decide +kernel))
theorem kl_X5_76 : Jvm.Cond.constantLong RX5 76 2270897969802886507 ∈ zk_ws := (zk_in 554 (by decide +kernel) (by decide +kernel))
theorem kl_X5_78 : Jvm.Cond.constantLong RX5 78 6620516959819538809 ∈ zk_ws := (zk_in 555 (by decide +kernel) (by decide +kernel))
theorem kl_X5_132 : Jvm.Cond.constantLong RX5 132 16842752 ∈ zk_ws := (zk_in 556 (by decide +kernel) (by decide +kernel))
theorem kl_X5_134 : Jvm.Cond.constantLong RX5 134 256 ∈ zk_ws := (zk_in 557 (by decide +kernel) (by decide +kernel))
theorem kl_X5_120 : Jvm.Cond.constantLong RX5 120 (-1) ∈ zk_ws := (zk_in 566 (by decide +kernel) (by decide +kernel))
theorem kl_X5_80 : Jvm.Cond.constantLong RX5 80 (-81985529216486896) ∈ zk_ws := (zk_in 570 (by decide +kernel) (by decide +kernel))
theorem kl_X5_82 : Jvm.Cond.constantLong RX5 82 3853709921291437230 ∈ zk_ws := (zk_in 571 (by decide +kernel) (by decide +kernel))
theorem kl_X5_84 : Jvm.Cond.constantLong RX5 84 5266788149650328715 ∈ zk_ws := (zk_in 572 (by decide +kernel) (by decide +kernel))
theorem kl_X5_86 : Jvm.Cond.constantLong RX5 86 (-8141200382097550441) ∈ zk_ws := (zk_in 573 (by decide +kernel) (by decide +kernel))
theorem kl_X5_88 : Jvm.Cond.constantLong RX5 88 (-3204650750919412471) ∈ zk_ws := (zk_in 574 (by decide +kernel) (by decide +kernel))
theorem kl_X5_90 : Jvm.Cond.constantLong RX5 90 (-7931023849780369726) ∈ zk_ws := (zk_in 575 (by decide +kernel) (by decide +kernel))
theorem kl_X5_92 : Jvm.Cond.constantLong RX5 92 (-5176546439255363236) ∈ zk_ws := (zk_in 576 (by decide +kernel) (by decide +kernel))
theorem kl_X5_94 : Jvm.Cond.constantLong RX5 94 (-6744053556625741891) ∈ zk_ws := (zk_in 577 (by decide +kernel) (by decide +kernel))
theorem kl_X5_96 : Jvm.Cond.constantLong RX5 96 6503616966983130870 ∈ zk_ws := (zk_in 578 (by decide +kernel) (by decide +kernel))
theorem kl_X5_98 : Jvm.Cond.constantLong RX5 98 991893350865389610 ∈ zk_ws := (zk_in 579 (by decide +kernel) (by decide +kernel))
theorem kl_X5_104 : Jvm.Cond.constantLong RX5 104 15 ∈ zk_ws := (zk_in 584 (by decide +kernel) (by decide +kernel))
theorem kl_X5_183 : Jvm.Cond.constantLong RX5 183 19 ∈ zk_ws := (zk_in 615 (by decide +kernel) (by decide +kernel))
theorem kl_X5_212 : Jvm.Cond.constantLong RX5 212 4 ∈ zk_ws := (zk_in 636 (by decide +kernel) (by decide +kernel))
theorem kl_X5_190 : Jvm.Cond.constantLong RX5 190 2 ∈ zk_ws := (zk_in 656 (by decide +kernel) (by decide +kernel))
theorem kl_X5_188 : Jvm.Cond.constantLong RX5 188 4294967295 ∈ zk_ws := (zk_in 660 (by decide +kernel) (by decide +kernel))
theorem kl_L_13 : Jvm.Cond.constantLong RL 13 4294967295 ∈ zk_ws := (zk_in 686 (by decide +kernel) (by decide +kernel))
theorem ki_X2_70 : Jvm.Cond.constant RX2 70 (nI 16842752) ∈ zk_ws := (zk_in 254 (by decide +kernel) (by decide +kernel))
theorem zc_bipush_m3 : (Int8.ofInt (-3)).toInt32 = (-3 : Int32) := by decide +kernel
theorem zc_bipush_m2 : (Int8.ofInt (-2)).toInt32 = (-2 : Int32) := by decide +kernel
theorem zc_bipush_6 : (Int8.ofInt (6)).toInt32 = nI 6 := by decide +kernel
theorem zc_bipush_7 : (Int8.ofInt (7)).toInt32 = nI 7 := by decide +kernel
theorem zc_bipush_8 : (Int8.ofInt (8)).toInt32 = nI 8 := by decide +kernel
theorem zc_bipush_9 : (Int8.ofInt (9)).toInt32 = nI 9 := by decide +kernel
theorem zc_bipush_10 : (Int8.ofInt (10)).toInt32 = nI 10 := by decide +kernel
theorem zc_bipush_11 : (Int8.ofInt (11)).toInt32 = nI 11 := by decide +kernel
theorem zc_bipush_12 : (Int8.ofInt (12)).toInt32 = nI 12 := by decide +kernel
theorem zc_bipush_13 : (Int8.ofInt (13)).toInt32 = nI 13 := by decide +kernel
theorem zc_bipush_14 : (Int8.ofInt (14)).toInt32 = nI 14 := by decide +kernel
theorem zc_bipush_15 : (Int8.ofInt (15)).toInt32 = nI 15 := by decide +kernel
theorem zc_bipush_16 : (Int8.ofInt (16)).toInt32 = nI 16 := by decide +kernel
theorem zc_bipush_24 : (Int8.ofInt (24)).toInt32 = nI 24 := by decide +kernel
theorem zc_bipush_32 : (Int8.ofInt (32)).toInt32 = nI 32 := by decide +kernel
theorem zc_bipush_63 : (Int8.ofInt (63)).toInt32 = nI 63 := by decide +kernel
theorem zc_bipush_64 : (Int8.ofInt (64)).toInt32 = nI 64 := by decide +kernel
theorem zc_bipush_96 : (Int8.ofInt (96)).toInt32 = nI 96 := by decide +kernel
theorem zc_bipush_100 : (Int8.ofInt (100)).toInt32 = nI 100 := by decide +kernel
theorem zc_bipush_127 : (Int8.ofInt (127)).toInt32 = nI 127 := by decide +kernel
theorem zc_iconst_m1 : Int32.ofInt (-1) = (-1 : Int32) := by decide +kernel
theorem zc_iconst_0 : Int32.ofInt (0) = nI 0 := by decide +kernel
theorem zc_iconst_1 : Int32.ofInt (1) = nI 1 := by decide +kernel
theorem zc_iconst_2 : Int32.ofInt (2) = nI 2 := by decide +kernel
theorem zc_iconst_3 : Int32.ofInt (3) = nI 3 := by decide +kernel
theorem zc_iconst_4 : Int32.ofInt (4) = nI 4 := by decide +kernel
theorem zc_iconst_5 : Int32.ofInt (5) = nI 5 := by decide +kernel
theorem zc_sipush_128 : (Int16.ofInt (128)).toInt32 = nI 128 := by decide +kernel
theorem zc_sipush_200 : (Int16.ofInt (200)).toInt32 = nI 200 := by decide +kernel
theorem zc_sipush_255 : (Int16.ofInt (255)).toInt32 = nI 255 := by decide +kernel
theorem zc_sipush_256 : (Int16.ofInt (256)).toInt32 = nI 256 := by decide +kernel
theorem zc_sipush_1000 : (Int16.ofInt (1000)).toInt32 = nI 1000 := by decide +kernel
theorem zc_sipush_1024 : (Int16.ofInt (1024)).toInt32 = nI 1024 := by decide +kernel
theorem zc_sipush_1028 : (Int16.ofInt (1028)).toInt32 = nI 1028 := by decide +kernel
theorem zc_sipush_1400 : (Int16.ofInt (1400)).toInt32 = nI 1400 := by decide +kernel
theorem zc_sipush_1600 : (Int16.ofInt (1600)).toInt32 = nI 1600 := by decide +kernel
theorem zc_sipush_16384 : (Int16.ofInt (16384)).toInt32 = nI 16384 := by decide +kernel
