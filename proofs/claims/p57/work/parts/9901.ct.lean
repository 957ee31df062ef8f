theorem ct_up {f : Nat → Int32} {k : Nat} (hf : ∀ j, 0 ≤ (f j).toInt ∧ (f j).toInt ≤ 65535) : ∀ j, 0 ≤ (va_up f k (vp_nar .char 46) j).toInt ∧ (va_up f k (vp_nar .char 46) j).toInt ≤ 65535 := fun j => by
  unfold va_up
  split
  · exact ⟨by decide, by decide⟩
  · exact hf j
theorem ct_u46 {f : Nat → Int32} {k : Nat} (hk : k < 600) (hf : ∀ j, j < k → f j = 46) : ∀ j, j < k + 1 → va_up f (nI k).toNatClampNeg (vp_nar .char 46) j = 46 := fun j hj => by
  rw [nI_clamp (show k < 2 ^ 31 by omega)]
  rcases Nat.lt_or_ge j k with h | h
  · exact (va_up_ne f _ (by omega)).trans (hf j h)
  · have e : j = k := by omega
    rw [e]
    exact (va_up_self f k _).trans (by decide)
theorem cwj76 : Cond.initialized RX3 ∈ en_cw := cw_at 76 (by decide +kernel) (by decide +kernel)
theorem cwj77 : Cond.initialized RX5 ∈ en_cw := cw_at 77 (by decide +kernel) (by decide +kernel)
theorem cwj78 : Cond.initialized RX0 ∈ en_cw := cw_at 78 (by decide +kernel) (by decide +kernel)
theorem cwj79 : Cond.initialized RX1 ∈ en_cw := cw_at 79 (by decide +kernel) (by decide +kernel)
theorem cwj80 : Cond.initialized RX2 ∈ en_cw := cw_at 80 (by decide +kernel) (by decide +kernel)
theorem cwj81 : Cond.initialized RX4 ∈ en_cw := cw_at 81 (by decide +kernel) (by decide +kernel)
theorem cwj116 : Cond.methodLink RX6 3 objectInit ∈ en_cw := cw_at 116 (by decide +kernel) (by decide +kernel)
theorem cwj119 : Cond.classLink RX6 9 RX3 ∈ en_cw := cw_at 119 (by decide +kernel) (by decide +kernel)
theorem cwj121 : Cond.instantiable RX3 6 ∈ en_cw := cw_at 121 (by decide +kernel) (by decide +kernel)
theorem cwj122 : Cond.methodLink RX6 15 yX3_init ∈ en_cw := cw_at 122 (by decide +kernel) (by decide +kernel)
theorem cwj123 : Cond.instanceMethod yX3_init ∈ en_cw := cw_at 123 (by decide +kernel) (by decide +kernel)
theorem cwj124 : Cond.code yX3_init cX3_init 2 none ∈ en_cw := cw_at 124 (by decide +kernel) (by decide +kernel)
theorem cwj125 : Cond.methodLink RX3 3 objectInit ∈ en_cw := cw_at 125 (by decide +kernel) (by decide +kernel)
theorem cwj126 : Cond.fieldLink RX3 9 "FairwayChancery$Hole" "kinds" "[C" ∈ en_cw := cw_at 126 (by decide +kernel) (by decide +kernel)
theorem cwj147 : Cond.arrayClass .char ∈ en_cw := cw_at 147 (by decide +kernel) (by decide +kernel)
theorem cwj148 : Cond.classLink RX6 16 RX5 ∈ en_cw := cw_at 148 (by decide +kernel) (by decide +kernel)
theorem cwj150 : Cond.instantiable RX5 4 ∈ en_cw := cw_at 150 (by decide +kernel) (by decide +kernel)
theorem cwj151 : Cond.methodLink RX6 22 yX5_init ∈ en_cw := cw_at 151 (by decide +kernel) (by decide +kernel)
theorem cwj152 : Cond.instanceMethod yX5_init ∈ en_cw := cw_at 152 (by decide +kernel) (by decide +kernel)
theorem cwj153 : Cond.code yX5_init cX5_init 1 none ∈ en_cw := cw_at 153 (by decide +kernel) (by decide +kernel)
theorem cwj154 : Cond.methodLink RX5 1 objectInit ∈ en_cw := cw_at 154 (by decide +kernel) (by decide +kernel)
theorem cwj155 : Cond.classLink RX5 7 RX0 ∈ en_cw := cw_at 155 (by decide +kernel) (by decide +kernel)
theorem cwj156 : Cond.instantiable RX0 16 ∈ en_cw := cw_at 156 (by decide +kernel) (by decide +kernel)
theorem cwj158 : Cond.instanceMethod yX0_init ∈ en_cw := cw_at 158 (by decide +kernel) (by decide +kernel)
theorem cwj159 : Cond.code yX0_init cX0_init 1 none ∈ en_cw := cw_at 159 (by decide +kernel) (by decide +kernel)
theorem cwj160 : Cond.methodLink RX0 3 objectInit ∈ en_cw := cw_at 160 (by decide +kernel) (by decide +kernel)
theorem cwj225 : Cond.classLink RX5 16 RX1 ∈ en_cw := cw_at 225 (by decide +kernel) (by decide +kernel)
theorem cwj226 : Cond.instantiable RX1 6 ∈ en_cw := cw_at 226 (by decide +kernel) (by decide +kernel)
theorem cwj227 : Cond.methodLink RX5 18 yX1_init ∈ en_cw := cw_at 227 (by decide +kernel) (by decide +kernel)
theorem cwj228 : Cond.instanceMethod yX1_init ∈ en_cw := cw_at 228 (by decide +kernel) (by decide +kernel)
theorem cwj229 : Cond.code yX1_init cX1_init 1 none ∈ en_cw := cw_at 229 (by decide +kernel) (by decide +kernel)
theorem cwj230 : Cond.methodLink RX1 3 objectInit ∈ en_cw := cw_at 230 (by decide +kernel) (by decide +kernel)
theorem cwj231 : Cond.fieldLink RX1 9 "FairwayChancery$Card" "scores" "[I" ∈ en_cw := cw_at 231 (by decide +kernel) (by decide +kernel)
theorem cwj233 : Cond.fieldLink RX1 15 "FairwayChancery$Card" "penalties" "[I" ∈ en_cw := cw_at 233 (by decide +kernel) (by decide +kernel)
theorem cwj235 : Cond.fieldLink RX1 18 "FairwayChancery$Card" "written" "[I" ∈ en_cw := cw_at 235 (by decide +kernel) (by decide +kernel)
theorem cwj257 : Cond.classLink RX5 23 RX2 ∈ en_cw := cw_at 257 (by decide +kernel) (by decide +kernel)
theorem cwj258 : Cond.instantiable RX2 4 ∈ en_cw := cw_at 258 (by decide +kernel) (by decide +kernel)
theorem cwj259 : Cond.methodLink RX5 25 yX2_init ∈ en_cw := cw_at 259 (by decide +kernel) (by decide +kernel)
theorem cwj260 : Cond.instanceMethod yX2_init ∈ en_cw := cw_at 260 (by decide +kernel) (by decide +kernel)
theorem cwj261 : Cond.code yX2_init cX2_init 1 none ∈ en_cw := cw_at 261 (by decide +kernel) (by decide +kernel)
theorem cwj262 : Cond.methodLink RX2 3 objectInit ∈ en_cw := cw_at 262 (by decide +kernel) (by decide +kernel)
theorem cwj263 : Cond.fieldLink RX2 9 "FairwayChancery$Form" "differences" "[I" ∈ en_cw := cw_at 263 (by decide +kernel) (by decide +kernel)
theorem cwj279 : Cond.fieldLink RX5 10 "FairwayChancery$Player" "ball" "LFairwayChancery$Ball;" ∈ en_cw := cw_at 279 (by decide +kernel) (by decide +kernel)
theorem cwj281 : Cond.fieldLink RX5 19 "FairwayChancery$Player" "card" "LFairwayChancery$Card;" ∈ en_cw := cw_at 281 (by decide +kernel) (by decide +kernel)
theorem cwj283 : Cond.fieldLink RX5 26 "FairwayChancery$Player" "form" "LFairwayChancery$Form;" ∈ en_cw := cw_at 283 (by decide +kernel) (by decide +kernel)
theorem cwj295 : Cond.classLink RX6 27 RX4 ∈ en_cw := cw_at 295 (by decide +kernel) (by decide +kernel)
theorem cwj296 : Cond.instantiable RX4 6 ∈ en_cw := cw_at 296 (by decide +kernel) (by decide +kernel)
theorem cwj297 : Cond.methodLink RX6 29 yX4_init ∈ en_cw := cw_at 297 (by decide +kernel) (by decide +kernel)
theorem cwj298 : Cond.instanceMethod yX4_init ∈ en_cw := cw_at 298 (by decide +kernel) (by decide +kernel)
theorem cwj299 : Cond.code yX4_init cX4_init 1 none ∈ en_cw := cw_at 299 (by decide +kernel) (by decide +kernel)
theorem cwj300 : Cond.methodLink RX4 3 objectInit ∈ en_cw := cw_at 300 (by decide +kernel) (by decide +kernel)
theorem cwj301 : Cond.classLink RX4 9 RX0 ∈ en_cw := cw_at 301 (by decide +kernel) (by decide +kernel)
theorem cwj303 : Cond.fieldLink RX4 12 "FairwayChancery$Match" "ahead" "LFairwayChancery$Ball;" ∈ en_cw := cw_at 303 (by decide +kernel) (by decide +kernel)
theorem cwj305 : Cond.fieldLink RX4 18 "FairwayChancery$Match" "outOfOrder" "I" ∈ en_cw := cw_at 305 (by decide +kernel) (by decide +kernel)
theorem cwj328 : Cond.fieldLink RX6 11 "FairwayChancery" "holes" "[LFairwayChancery$Hole;" ∈ en_cw := cw_at 328 (by decide +kernel) (by decide +kernel)
theorem cwj329 : Cond.fieldLink RX6 18 "FairwayChancery" "players" "[LFairwayChancery$Player;" ∈ en_cw := cw_at 329 (by decide +kernel) (by decide +kernel)
theorem cwj330 : Cond.fieldLink RX6 23 "FairwayChancery" "honour" "[I" ∈ en_cw := cw_at 330 (by decide +kernel) (by decide +kernel)
theorem cwj331 : Cond.fieldLink RX6 30 "FairwayChancery" "match" "LFairwayChancery$Match;" ∈ en_cw := cw_at 331 (by decide +kernel) (by decide +kernel)
theorem cwj334 : Cond.fieldLink RX6 34 "FairwayChancery" "seed" "I" ∈ en_cw := cw_at 334 (by decide +kernel) (by decide +kernel)
theorem cwj335 : Cond.fieldLink RX6 38 "FairwayChancery" "law" "C" ∈ en_cw := cw_at 335 (by decide +kernel) (by decide +kernel)
theorem cwj337 : Cond.fieldLink RX6 42 "FairwayChancery" "format" "C" ∈ en_cw := cw_at 337 (by decide +kernel) (by decide +kernel)
theorem cwj1400 : Cond.methodLink RX7 1 objectInit ∈ en_cw := cw_at 1400 (by decide +kernel) (by decide +kernel)
theorem cwj1401 : Cond.classLink RX7 9 "[[I" ∈ en_cw := cw_at 1401 (by decide +kernel) (by decide +kernel)
theorem cwj1403 : Cond.classLink RX7 14 "[[C" ∈ en_cw := cw_at 1403 (by decide +kernel) (by decide +kernel)
theorem cwj1434 : Cond.arrayClass .boolean ∈ en_cw := cw_at 1434 (by decide +kernel) (by decide +kernel)
theorem cwj1499 : Cond.fieldLink RX7 16 "FairwayChanceryModel" "kinds" "[[C" ∈ en_cw := cw_at 1499 (by decide +kernel) (by decide +kernel)
theorem cwj1501 : Cond.fieldLink RX7 23 "FairwayChanceryModel" "balls" "[[I" ∈ en_cw := cw_at 1501 (by decide +kernel) (by decide +kernel)
theorem cwj1502 : Cond.fieldLink RX7 26 "FairwayChanceryModel" "ahead" "[I" ∈ en_cw := cw_at 1502 (by decide +kernel) (by decide +kernel)
theorem cwj1503 : Cond.fieldLink RX7 29 "FairwayChanceryModel" "scores" "[[I" ∈ en_cw := cw_at 1503 (by decide +kernel) (by decide +kernel)
theorem cwj1504 : Cond.fieldLink RX7 32 "FairwayChanceryModel" "penaltiesOn" "[[I" ∈ en_cw := cw_at 1504 (by decide +kernel) (by decide +kernel)
theorem cwj1509 : Cond.fieldLink RX7 48 "FairwayChanceryModel" "honour" "[I" ∈ en_cw := cw_at 1509 (by decide +kernel) (by decide +kernel)
theorem cwj1513 : Cond.fieldLink RX7 64 "FairwayChanceryModel" "winners" "[I" ∈ en_cw := cw_at 1513 (by decide +kernel) (by decide +kernel)
theorem cwj1516 : Cond.fieldLink RX7 67 "FairwayChanceryModel" "seed" "I" ∈ en_cw := cw_at 1516 (by decide +kernel) (by decide +kernel)
theorem cwj1517 : Cond.fieldLink RX7 71 "FairwayChanceryModel" "edition" "C" ∈ en_cw := cw_at 1517 (by decide +kernel) (by decide +kernel)
set_option maxRecDepth 20000 in
theorem uwj_X0 : ∀ w ∈ u_ws RX0 TX0 16, w ∈ en_cw := cw_all _ [192, 194, 196, 198, 200, 202, 204, 206, 208, 210, 212, 214, 216, 218, 220, 222] (by decide +kernel) (by decide +kernel)
set_option maxRecDepth 20000 in
theorem uwj_X1 : ∀ w ∈ u_ws RX1 TX1 6, w ∈ en_cw := cw_all _ [243, 245, 247, 249, 251, 253] (by decide +kernel) (by decide +kernel)
set_option maxRecDepth 20000 in
theorem uwj_X2 : ∀ w ∈ u_ws RX2 TX2 4, w ∈ en_cw := cw_all _ [270, 272, 274, 276] (by decide +kernel) (by decide +kernel)
set_option maxRecDepth 20000 in
theorem uwj_X3 : ∀ w ∈ u_ws RX3 TX3 6, w ∈ en_cw := cw_all _ [134, 136, 138, 140, 142, 144] (by decide +kernel) (by decide +kernel)
set_option maxRecDepth 20000 in
theorem uwj_X4 : ∀ w ∈ u_ws RX4 TX4 6, w ∈ en_cw := cw_all _ [315, 317, 319, 321, 323, 325] (by decide +kernel) (by decide +kernel)
set_option maxRecDepth 20000 in
theorem uwj_X5 : ∀ w ∈ u_ws RX5 TX5 4, w ∈ en_cw := cw_all _ [286, 288, 290, 292] (by decide +kernel) (by decide +kernel)
set_option maxRecDepth 20000 in
theorem uwj_X6 : ∀ w ∈ u_ws RX6 TX6 14, w ∈ en_cw := cw_all _ [342, 344, 346, 348, 350, 352, 354, 356, 358, 360, 362, 364, 366, 368] (by decide +kernel) (by decide +kernel)
theorem gjn_X0_init : li_CN yX0_init cX0_init 1 0 := ⟨cwj78, cwj158, cwj159, rfl, by decide, by decide, by decide +kernel⟩
theorem gj_X5_18 : li_CI RX5 18 yX1_init cX1_init 1 0 := ⟨cwj79, cwj227, cwj228, cwj229, rfl, by decide, by decide, by decide +kernel⟩
theorem gj_X5_25 : li_CI RX5 25 yX2_init cX2_init 1 0 := ⟨cwj80, cwj259, cwj260, cwj261, rfl, by decide, by decide, by decide +kernel⟩
theorem gj_X6_29 : li_CI RX6 29 yX4_init cX4_init 1 0 := ⟨cwj81, cwj297, cwj298, cwj299, rfl, by decide, by decide, by decide +kernel⟩
theorem gj_X6_22 : li_CI RX6 22 yX5_init cX5_init 1 0 := ⟨cwj77, cwj151, cwj152, cwj153, rfl, by decide, by decide, by decide +kernel⟩
theorem gj_X6_15 : li_CI RX6 15 yX3_init cX3_init 2 0 := ⟨cwj76, cwj122, cwj123, cwj124, rfl, by decide, by decide, by decide +kernel⟩
theorem dj_X0_init_0 : decode cX0_init 0 = .ok (.aload_n 0, 1) := by decide +kernel
theorem dj_X0_init_1 : decode cX0_init 1 = .ok (.invokespecial 3, 3) := by decide +kernel
theorem dj_X0_init_4 : decode cX0_init 4 = .ok (.return_, 1) := by decide +kernel
theorem dj_X1_init_0 : decode cX1_init 0 = .ok (.aload_n 0, 1) := by decide +kernel
theorem dj_X1_init_1 : decode cX1_init 1 = .ok (.invokespecial 3, 3) := by decide +kernel
theorem dj_X1_init_4 : decode cX1_init 4 = .ok (.aload_n 0, 1) := by decide +kernel
theorem dj_X1_init_5 : decode cX1_init 5 = .ok (.bipush 9, 2) := by decide +kernel
theorem dj_X1_init_7 : decode cX1_init 7 = .ok (.newarray .int, 2) := by decide +kernel
theorem dj_X1_init_9 : decode cX1_init 9 = .ok (.putfield 9, 3) := by decide +kernel
theorem dj_X1_init_12 : decode cX1_init 12 = .ok (.aload_n 0, 1) := by decide +kernel
theorem dj_X1_init_13 : decode cX1_init 13 = .ok (.bipush 9, 2) := by decide +kernel
theorem dj_X1_init_15 : decode cX1_init 15 = .ok (.newarray .int, 2) := by decide +kernel
theorem dj_X1_init_17 : decode cX1_init 17 = .ok (.putfield 15, 3) := by decide +kernel
theorem dj_X1_init_20 : decode cX1_init 20 = .ok (.aload_n 0, 1) := by decide +kernel
theorem dj_X1_init_21 : decode cX1_init 21 = .ok (.bipush 9, 2) := by decide +kernel
theorem dj_X1_init_23 : decode cX1_init 23 = .ok (.newarray .int, 2) := by decide +kernel
theorem dj_X1_init_25 : decode cX1_init 25 = .ok (.putfield 18, 3) := by decide +kernel
theorem dj_X1_init_28 : decode cX1_init 28 = .ok (.return_, 1) := by decide +kernel
theorem dj_X2_init_0 : decode cX2_init 0 = .ok (.aload_n 0, 1) := by decide +kernel
theorem dj_X2_init_1 : decode cX2_init 1 = .ok (.invokespecial 3, 3) := by decide +kernel
theorem dj_X2_init_4 : decode cX2_init 4 = .ok (.aload_n 0, 1) := by decide +kernel
theorem dj_X2_init_5 : decode cX2_init 5 = .ok (.bipush 20, 2) := by decide +kernel
theorem dj_X2_init_7 : decode cX2_init 7 = .ok (.newarray .int, 2) := by decide +kernel
theorem dj_X2_init_9 : decode cX2_init 9 = .ok (.putfield 9, 3) := by decide +kernel
theorem dj_X2_init_12 : decode cX2_init 12 = .ok (.return_, 1) := by decide +kernel
theorem dj_X3_init_0 : decode cX3_init 0 = .ok (.aload_n 0, 1) := by decide +kernel
theorem dj_X3_init_1 : decode cX3_init 1 = .ok (.invokespecial 3, 3) := by decide +kernel
theorem dj_X3_init_4 : decode cX3_init 4 = .ok (.aload_n 0, 1) := by decide +kernel
theorem dj_X3_init_5 : decode cX3_init 5 = .ok (.sipush 600, 3) := by decide +kernel
theorem dj_X3_init_8 : decode cX3_init 8 = .ok (.newarray .char, 2) := by decide +kernel
theorem dj_X3_init_10 : decode cX3_init 10 = .ok (.putfield 9, 3) := by decide +kernel
theorem dj_X3_init_13 : decode cX3_init 13 = .ok (.iconst 0, 1) := by decide +kernel
theorem dj_X3_init_14 : decode cX3_init 14 = .ok (.istore_n 1, 1) := by decide +kernel
theorem dj_X3_init_15 : decode cX3_init 15 = .ok (.iload_n 1, 1) := by decide +kernel
theorem dj_X3_init_16 : decode cX3_init 16 = .ok (.sipush 600, 3) := by decide +kernel
theorem dj_X3_init_19 : decode cX3_init 19 = .ok (.if_icmp .ge 17, 3) := by decide +kernel
theorem dj_X3_init_36 : decode cX3_init 36 = .ok (.return_, 1) := by decide +kernel
theorem dj_X3_init_22 : decode cX3_init 22 = .ok (.aload_n 0, 1) := by decide +kernel
theorem dj_X3_init_23 : decode cX3_init 23 = .ok (.getfield 9, 3) := by decide +kernel
theorem dj_X3_init_26 : decode cX3_init 26 = .ok (.iload_n 1, 1) := by decide +kernel
theorem dj_X3_init_27 : decode cX3_init 27 = .ok (.bipush 46, 2) := by decide +kernel
theorem dj_X3_init_29 : decode cX3_init 29 = .ok (.castore, 1) := by decide +kernel
theorem dj_X3_init_30 : decode cX3_init 30 = .ok (.iinc 1 1, 3) := by decide +kernel
theorem dj_X3_init_33 : decode cX3_init 33 = .ok (.goto (-18), 3) := by decide +kernel
theorem dj_X4_init_0 : decode cX4_init 0 = .ok (.aload_n 0, 1) := by decide +kernel
theorem dj_X4_init_1 : decode cX4_init 1 = .ok (.invokespecial 3, 3) := by decide +kernel
theorem dj_X4_init_4 : decode cX4_init 4 = .ok (.aload_n 0, 1) := by decide +kernel
theorem dj_X4_init_5 : decode cX4_init 5 = .ok (.new 9, 3) := by decide +kernel
theorem dj_X4_init_8 : decode cX4_init 8 = .ok (.dup, 1) := by decide +kernel
theorem dj_X4_init_9 : decode cX4_init 9 = .ok (.invokespecial 11, 3) := by decide +kernel
theorem dj_X4_init_12 : decode cX4_init 12 = .ok (.putfield 12, 3) := by decide +kernel
theorem dj_X4_init_15 : decode cX4_init 15 = .ok (.aload_n 0, 1) := by decide +kernel
theorem dj_X4_init_16 : decode cX4_init 16 = .ok (.iconst (-1), 1) := by decide +kernel
theorem dj_X4_init_17 : decode cX4_init 17 = .ok (.putfield 18, 3) := by decide +kernel
theorem dj_X4_init_20 : decode cX4_init 20 = .ok (.return_, 1) := by decide +kernel
theorem dj_X5_init_0 : decode cX5_init 0 = .ok (.aload_n 0, 1) := by decide +kernel
theorem dj_X5_init_1 : decode cX5_init 1 = .ok (.invokespecial 1, 3) := by decide +kernel
theorem dj_X5_init_4 : decode cX5_init 4 = .ok (.aload_n 0, 1) := by decide +kernel
theorem dj_X5_init_5 : decode cX5_init 5 = .ok (.new 7, 3) := by decide +kernel
theorem dj_X5_init_8 : decode cX5_init 8 = .ok (.dup, 1) := by decide +kernel
theorem dj_X5_init_9 : decode cX5_init 9 = .ok (.invokespecial 9, 3) := by decide +kernel
theorem dj_X5_init_12 : decode cX5_init 12 = .ok (.putfield 10, 3) := by decide +kernel
theorem dj_X5_init_15 : decode cX5_init 15 = .ok (.aload_n 0, 1) := by decide +kernel
theorem dj_X5_init_16 : decode cX5_init 16 = .ok (.new 16, 3) := by decide +kernel
theorem dj_X5_init_19 : decode cX5_init 19 = .ok (.dup, 1) := by decide +kernel
theorem dj_X5_init_20 : decode cX5_init 20 = .ok (.invokespecial 18, 3) := by decide +kernel
theorem dj_X5_init_23 : decode cX5_init 23 = .ok (.putfield 19, 3) := by decide +kernel
theorem dj_X5_init_26 : decode cX5_init 26 = .ok (.aload_n 0, 1) := by decide +kernel
theorem dj_X5_init_27 : decode cX5_init 27 = .ok (.new 23, 3) := by decide +kernel
theorem dj_X5_init_30 : decode cX5_init 30 = .ok (.dup, 1) := by decide +kernel
theorem dj_X5_init_31 : decode cX5_init 31 = .ok (.invokespecial 25, 3) := by decide +kernel
theorem dj_X5_init_34 : decode cX5_init 34 = .ok (.putfield 26, 3) := by decide +kernel
theorem dj_X5_init_37 : decode cX5_init 37 = .ok (.return_, 1) := by decide +kernel
theorem dj_X6_init_0 : decode cX6_init 0 = .ok (.aload_n 0, 1) := by decide +kernel
theorem dj_X6_init_1 : decode cX6_init 1 = .ok (.invokespecial 3, 3) := by decide +kernel
theorem dj_X6_init_4 : decode cX6_init 4 = .ok (.aload_n 0, 1) := by decide +kernel
theorem dj_X6_init_5 : decode cX6_init 5 = .ok (.bipush 9, 2) := by decide +kernel
theorem dj_X6_init_7 : decode cX6_init 7 = .ok (.anewarray 9, 3) := by decide +kernel
theorem dj_X6_init_10 : decode cX6_init 10 = .ok (.putfield 11, 3) := by decide +kernel
theorem dj_X6_init_13 : decode cX6_init 13 = .ok (.iconst 0, 1) := by decide +kernel
theorem dj_X6_init_14 : decode cX6_init 14 = .ok (.istore_n 1, 1) := by decide +kernel
theorem dj_X6_init_15 : decode cX6_init 15 = .ok (.iload_n 1, 1) := by decide +kernel
theorem dj_X6_init_16 : decode cX6_init 16 = .ok (.bipush 9, 2) := by decide +kernel
theorem dj_X6_init_18 : decode cX6_init 18 = .ok (.if_icmp .ge 22, 3) := by decide +kernel
theorem dj_X6_init_40 : decode cX6_init 40 = .ok (.aload_n 0, 1) := by decide +kernel
theorem dj_X6_init_41 : decode cX6_init 41 = .ok (.bipush 6, 2) := by decide +kernel
theorem dj_X6_init_43 : decode cX6_init 43 = .ok (.anewarray 16, 3) := by decide +kernel
theorem dj_X6_init_46 : decode cX6_init 46 = .ok (.putfield 18, 3) := by decide +kernel
theorem dj_X6_init_49 : decode cX6_init 49 = .ok (.iconst 0, 1) := by decide +kernel
theorem dj_X6_init_50 : decode cX6_init 50 = .ok (.istore_n 1, 1) := by decide +kernel
theorem dj_X6_init_51 : decode cX6_init 51 = .ok (.iload_n 1, 1) := by decide +kernel
theorem dj_X6_init_52 : decode cX6_init 52 = .ok (.bipush 6, 2) := by decide +kernel
theorem dj_X6_init_54 : decode cX6_init 54 = .ok (.if_icmp .ge 22, 3) := by decide +kernel
theorem dj_X6_init_76 : decode cX6_init 76 = .ok (.aload_n 0, 1) := by decide +kernel
theorem dj_X6_init_77 : decode cX6_init 77 = .ok (.bipush 6, 2) := by decide +kernel
theorem dj_X6_init_79 : decode cX6_init 79 = .ok (.newarray .int, 2) := by decide +kernel
theorem dj_X6_init_81 : decode cX6_init 81 = .ok (.putfield 23, 3) := by decide +kernel
theorem dj_X6_init_84 : decode cX6_init 84 = .ok (.aload_n 0, 1) := by decide +kernel
theorem dj_X6_init_85 : decode cX6_init 85 = .ok (.new 27, 3) := by decide +kernel
theorem dj_X6_init_88 : decode cX6_init 88 = .ok (.dup, 1) := by decide +kernel
theorem dj_X6_init_89 : decode cX6_init 89 = .ok (.invokespecial 29, 3) := by decide +kernel
theorem dj_X6_init_92 : decode cX6_init 92 = .ok (.putfield 30, 3) := by decide +kernel
theorem dj_X6_init_95 : decode cX6_init 95 = .ok (.aload_n 0, 1) := by decide +kernel
theorem dj_X6_init_96 : decode cX6_init 96 = .ok (.iconst 1, 1) := by decide +kernel
theorem dj_X6_init_97 : decode cX6_init 97 = .ok (.putfield 34, 3) := by decide +kernel
theorem dj_X6_init_100 : decode cX6_init 100 = .ok (.aload_n 0, 1) := by decide +kernel
theorem dj_X6_init_101 : decode cX6_init 101 = .ok (.bipush 110, 2) := by decide +kernel
theorem dj_X6_init_103 : decode cX6_init 103 = .ok (.putfield 38, 3) := by decide +kernel
theorem dj_X6_init_106 : decode cX6_init 106 = .ok (.aload_n 0, 1) := by decide +kernel
theorem dj_X6_init_107 : decode cX6_init 107 = .ok (.bipush 115, 2) := by decide +kernel
theorem dj_X6_init_109 : decode cX6_init 109 = .ok (.putfield 42, 3) := by decide +kernel
theorem dj_X6_init_112 : decode cX6_init 112 = .ok (.return_, 1) := by decide +kernel
theorem dj_X6_init_57 : decode cX6_init 57 = .ok (.aload_n 0, 1) := by decide +kernel
theorem dj_X6_init_58 : decode cX6_init 58 = .ok (.getfield 18, 3) := by decide +kernel
theorem dj_X6_init_61 : decode cX6_init 61 = .ok (.iload_n 1, 1) := by decide +kernel
theorem dj_X6_init_62 : decode cX6_init 62 = .ok (.new 16, 3) := by decide +kernel
theorem dj_X6_init_65 : decode cX6_init 65 = .ok (.dup, 1) := by decide +kernel
theorem dj_X6_init_66 : decode cX6_init 66 = .ok (.invokespecial 22, 3) := by decide +kernel
theorem dj_X6_init_69 : decode cX6_init 69 = .ok (.aastore, 1) := by decide +kernel
theorem dj_X6_init_70 : decode cX6_init 70 = .ok (.iinc 1 1, 3) := by decide +kernel
theorem dj_X6_init_73 : decode cX6_init 73 = .ok (.goto (-22), 3) := by decide +kernel
theorem dj_X6_init_21 : decode cX6_init 21 = .ok (.aload_n 0, 1) := by decide +kernel
theorem dj_X6_init_22 : decode cX6_init 22 = .ok (.getfield 11, 3) := by decide +kernel
theorem dj_X6_init_25 : decode cX6_init 25 = .ok (.iload_n 1, 1) := by decide +kernel
theorem dj_X6_init_26 : decode cX6_init 26 = .ok (.new 9, 3) := by decide +kernel
theorem dj_X6_init_29 : decode cX6_init 29 = .ok (.dup, 1) := by decide +kernel
theorem dj_X6_init_30 : decode cX6_init 30 = .ok (.invokespecial 15, 3) := by decide +kernel
theorem dj_X6_init_33 : decode cX6_init 33 = .ok (.aastore, 1) := by decide +kernel
theorem dj_X6_init_34 : decode cX6_init 34 = .ok (.iinc 1 1, 3) := by decide +kernel
theorem dj_X6_init_37 : decode cX6_init 37 = .ok (.goto (-22), 3) := by decide +kernel
theorem dj_X7_init_0 : decode cX7_init 0 = .ok (.aload_n 0, 1) := by decide +kernel
theorem dj_X7_init_1 : decode cX7_init 1 = .ok (.invokespecial 1, 3) := by decide +kernel
theorem dj_X7_init_4 : decode cX7_init 4 = .ok (.aload_n 0, 1) := by decide +kernel
theorem dj_X7_init_5 : decode cX7_init 5 = .ok (.bipush 9, 2) := by decide +kernel
theorem dj_X7_init_7 : decode cX7_init 7 = .ok (.bipush 7, 2) := by decide +kernel
theorem dj_X7_init_9 : decode cX7_init 9 = .ok (.multianewarray 9 2, 4) := by decide +kernel
theorem dj_X7_init_13 : decode cX7_init 13 = .ok (.putfield 11, 3) := by decide +kernel
theorem dj_X7_init_16 : decode cX7_init 16 = .ok (.aload_n 0, 1) := by decide +kernel
theorem dj_X7_init_17 : decode cX7_init 17 = .ok (.bipush 9, 2) := by decide +kernel
theorem dj_X7_init_19 : decode cX7_init 19 = .ok (.sipush 600, 3) := by decide +kernel
theorem dj_X7_init_22 : decode cX7_init 22 = .ok (.multianewarray 14 2, 4) := by decide +kernel
theorem dj_X7_init_26 : decode cX7_init 26 = .ok (.putfield 16, 3) := by decide +kernel
theorem dj_X7_init_29 : decode cX7_init 29 = .ok (.aload_n 0, 1) := by decide +kernel
theorem dj_X7_init_30 : decode cX7_init 30 = .ok (.bipush 6, 2) := by decide +kernel
theorem dj_X7_init_32 : decode cX7_init 32 = .ok (.newarray .int, 2) := by decide +kernel
theorem dj_X7_init_34 : decode cX7_init 34 = .ok (.putfield 19, 3) := by decide +kernel
theorem dj_X7_init_37 : decode cX7_init 37 = .ok (.aload_n 0, 1) := by decide +kernel
theorem dj_X7_init_38 : decode cX7_init 38 = .ok (.bipush 6, 2) := by decide +kernel
theorem dj_X7_init_40 : decode cX7_init 40 = .ok (.bipush 24, 2) := by decide +kernel
theorem dj_X7_init_42 : decode cX7_init 42 = .ok (.multianewarray 9 2, 4) := by decide +kernel
theorem dj_X7_init_46 : decode cX7_init 46 = .ok (.putfield 23, 3) := by decide +kernel
theorem dj_X7_init_49 : decode cX7_init 49 = .ok (.aload_n 0, 1) := by decide +kernel
theorem dj_X7_init_50 : decode cX7_init 50 = .ok (.bipush 24, 2) := by decide +kernel
theorem dj_X7_init_52 : decode cX7_init 52 = .ok (.newarray .int, 2) := by decide +kernel
theorem dj_X7_init_54 : decode cX7_init 54 = .ok (.putfield 26, 3) := by decide +kernel
theorem dj_X7_init_57 : decode cX7_init 57 = .ok (.aload_n 0, 1) := by decide +kernel
theorem dj_X7_init_58 : decode cX7_init 58 = .ok (.bipush 6, 2) := by decide +kernel
theorem dj_X7_init_60 : decode cX7_init 60 = .ok (.bipush 9, 2) := by decide +kernel
theorem dj_X7_init_62 : decode cX7_init 62 = .ok (.multianewarray 9 2, 4) := by decide +kernel
theorem dj_X7_init_66 : decode cX7_init 66 = .ok (.putfield 29, 3) := by decide +kernel
theorem dj_X7_init_69 : decode cX7_init 69 = .ok (.aload_n 0, 1) := by decide +kernel
theorem dj_X7_init_70 : decode cX7_init 70 = .ok (.bipush 6, 2) := by decide +kernel
theorem dj_X7_init_72 : decode cX7_init 72 = .ok (.bipush 9, 2) := by decide +kernel
theorem dj_X7_init_74 : decode cX7_init 74 = .ok (.multianewarray 9 2, 4) := by decide +kernel
theorem dj_X7_init_78 : decode cX7_init 78 = .ok (.putfield 32, 3) := by decide +kernel
theorem dj_X7_init_81 : decode cX7_init 81 = .ok (.aload_n 0, 1) := by decide +kernel
theorem dj_X7_init_82 : decode cX7_init 82 = .ok (.bipush 6, 2) := by decide +kernel
theorem dj_X7_init_84 : decode cX7_init 84 = .ok (.bipush 9, 2) := by decide +kernel
theorem dj_X7_init_86 : decode cX7_init 86 = .ok (.multianewarray 9 2, 4) := by decide +kernel
theorem dj_X7_init_90 : decode cX7_init 90 = .ok (.putfield 35, 3) := by decide +kernel
theorem dj_X7_init_93 : decode cX7_init 93 = .ok (.aload_n 0, 1) := by decide +kernel
theorem dj_X7_init_94 : decode cX7_init 94 = .ok (.bipush 6, 2) := by decide +kernel
theorem dj_X7_init_96 : decode cX7_init 96 = .ok (.newarray .boolean, 2) := by decide +kernel
theorem dj_X7_init_98 : decode cX7_init 98 = .ok (.putfield 38, 3) := by decide +kernel
theorem dj_X7_init_101 : decode cX7_init 101 = .ok (.aload_n 0, 1) := by decide +kernel
theorem dj_X7_init_102 : decode cX7_init 102 = .ok (.bipush 6, 2) := by decide +kernel
theorem dj_X7_init_104 : decode cX7_init 104 = .ok (.newarray .boolean, 2) := by decide +kernel
theorem dj_X7_init_106 : decode cX7_init 106 = .ok (.putfield 42, 3) := by decide +kernel
theorem dj_X7_init_109 : decode cX7_init 109 = .ok (.aload_n 0, 1) := by decide +kernel
theorem dj_X7_init_110 : decode cX7_init 110 = .ok (.bipush 6, 2) := by decide +kernel
theorem dj_X7_init_112 : decode cX7_init 112 = .ok (.newarray .boolean, 2) := by decide +kernel
theorem dj_X7_init_114 : decode cX7_init 114 = .ok (.putfield 45, 3) := by decide +kernel
theorem dj_X7_init_117 : decode cX7_init 117 = .ok (.aload_n 0, 1) := by decide +kernel
theorem dj_X7_init_118 : decode cX7_init 118 = .ok (.bipush 6, 2) := by decide +kernel
theorem dj_X7_init_120 : decode cX7_init 120 = .ok (.newarray .int, 2) := by decide +kernel
theorem dj_X7_init_122 : decode cX7_init 122 = .ok (.putfield 48, 3) := by decide +kernel
theorem dj_X7_init_125 : decode cX7_init 125 = .ok (.aload_n 0, 1) := by decide +kernel
theorem dj_X7_init_126 : decode cX7_init 126 = .ok (.new 51, 3) := by decide +kernel
theorem dj_X7_init_129 : decode cX7_init 129 = .ok (.dup, 1) := by decide +kernel
theorem dj_X7_init_130 : decode cX7_init 130 = .ok (.invokespecial 53, 3) := by decide +kernel
theorem dj_X7_init_133 : decode cX7_init 133 = .ok (.putfield 54, 3) := by decide +kernel
theorem dj_X7_init_136 : decode cX7_init 136 = .ok (.aload_n 0, 1) := by decide +kernel
theorem dj_X7_init_137 : decode cX7_init 137 = .ok (.bipush 6, 2) := by decide +kernel
theorem dj_X7_init_139 : decode cX7_init 139 = .ok (.newarray .int, 2) := by decide +kernel
theorem dj_X7_init_141 : decode cX7_init 141 = .ok (.putfield 58, 3) := by decide +kernel
theorem dj_X7_init_144 : decode cX7_init 144 = .ok (.aload_n 0, 1) := by decide +kernel
theorem dj_X7_init_145 : decode cX7_init 145 = .ok (.bipush 6, 2) := by decide +kernel
theorem dj_X7_init_147 : decode cX7_init 147 = .ok (.newarray .int, 2) := by decide +kernel
theorem dj_X7_init_149 : decode cX7_init 149 = .ok (.putfield 61, 3) := by decide +kernel
theorem dj_X7_init_152 : decode cX7_init 152 = .ok (.aload_n 0, 1) := by decide +kernel
theorem dj_X7_init_153 : decode cX7_init 153 = .ok (.bipush 9, 2) := by decide +kernel
theorem dj_X7_init_155 : decode cX7_init 155 = .ok (.newarray .int, 2) := by decide +kernel
theorem dj_X7_init_157 : decode cX7_init 157 = .ok (.putfield 64, 3) := by decide +kernel
theorem dj_X7_init_160 : decode cX7_init 160 = .ok (.aload_n 0, 1) := by decide +kernel
theorem dj_X7_init_161 : decode cX7_init 161 = .ok (.iconst 1, 1) := by decide +kernel
theorem dj_X7_init_162 : decode cX7_init 162 = .ok (.putfield 67, 3) := by decide +kernel
theorem dj_X7_init_165 : decode cX7_init 165 = .ok (.aload_n 0, 1) := by decide +kernel
theorem dj_X7_init_166 : decode cX7_init 166 = .ok (.bipush 110, 2) := by decide +kernel
theorem dj_X7_init_168 : decode cX7_init 168 = .ok (.putfield 71, 3) := by decide +kernel
theorem dj_X7_init_171 : decode cX7_init 171 = .ok (.iconst 0, 1) := by decide +kernel
theorem dj_X7_init_172 : decode cX7_init 172 = .ok (.istore_n 1, 1) := by decide +kernel
theorem dj_X7_init_173 : decode cX7_init 173 = .ok (.iload_n 1, 1) := by decide +kernel
theorem dj_X7_init_174 : decode cX7_init 174 = .ok (.bipush 6, 2) := by decide +kernel
theorem dj_X7_init_176 : decode cX7_init 176 = .ok (.if_icmp .ge 24, 3) := by decide +kernel
theorem dj_X7_init_179 : decode cX7_init 179 = .ok (.aload_n 0, 1) := by decide +kernel
theorem dj_X7_init_180 : decode cX7_init 180 = .ok (.getfield 54, 3) := by decide +kernel
theorem dj_X7_init_183 : decode cX7_init 183 = .ok (.new 51, 3) := by decide +kernel
theorem dj_X7_init_186 : decode cX7_init 186 = .ok (.dup, 1) := by decide +kernel
theorem dj_X7_init_187 : decode cX7_init 187 = .ok (.invokespecial 53, 3) := by decide +kernel
theorem dj_X7_init_190 : decode cX7_init 190 = .ok (.invokevirtual 75, 3) := by decide +kernel
theorem dj_X7_init_193 : decode cX7_init 193 = .ok (.pop, 1) := by decide +kernel
theorem dj_X7_init_194 : decode cX7_init 194 = .ok (.iinc 1 1, 3) := by decide +kernel
theorem dj_X7_init_197 : decode cX7_init 197 = .ok (.goto (-24), 3) := by decide +kernel
theorem dj_X7_init_200 : decode cX7_init 200 = .ok (.return_, 1) := by decide +kernel
