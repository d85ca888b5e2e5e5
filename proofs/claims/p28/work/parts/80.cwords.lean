/-! the words that the constructors link -/
theorem fkJL : Cond.initialized RL ∈ fp_tb := fp_in (i := 1) (by decide +kernel) (by decide +kernel)
theorem fkJX6 : Cond.initialized RX6 ∈ fp_tb := fp_in (i := 2) (by decide +kernel) (by decide +kernel)
theorem fkJX4 : Cond.initialized RX4 ∈ fp_tb := fp_in (i := 3) (by decide +kernel) (by decide +kernel)
theorem fkJX2 : Cond.initialized RX2 ∈ fp_tb := fp_in (i := 4) (by decide +kernel) (by decide +kernel)
theorem fkJX5 : Cond.initialized RX5 ∈ fp_tb := fp_in (i := 5) (by decide +kernel) (by decide +kernel)
theorem fkJX1 : Cond.initialized RX1 ∈ fp_tb := fp_in (i := 6) (by decide +kernel) (by decide +kernel)
theorem fkJX0 : Cond.initialized RX0 ∈ fp_tb := fp_in (i := 7) (by decide +kernel) (by decide +kernel)
theorem fkJX3 : Cond.initialized RX3 ∈ fp_tb := fp_in (i := 8) (by decide +kernel) (by decide +kernel)
theorem fkLL_10 : Cond.classLink RL 10 RX6 ∈ fp_tb := fp_in (i := 11) (by decide +kernel) (by decide +kernel)
theorem fkNX6 : Cond.instantiable RX6 6 ∈ fp_tb := fp_in (i := 12) (by decide +kernel) (by decide +kernel)
theorem fkML_78 : Cond.methodLink RL 78 yX6_init ∈ fp_tb := fp_in (i := 13) (by decide +kernel) (by decide +kernel)
theorem fkI_X6_init : Cond.instanceMethod yX6_init ∈ fp_tb := fp_in (i := 14) (by decide +kernel) (by decide +kernel)
set_option maxRecDepth 100000 in
theorem fkC_X6_init : Cond.code yX6_init cX6_init 1 none ∈ fp_tb := fp_in (i := 15) (by rfl) (by decide +kernel)
theorem fkMX6_1 : Cond.methodLink RX6 1 Lib.objectInit ∈ fp_tb := fp_in (i := 16) (by decide +kernel) (by decide +kernel)
theorem fkI_obj : Cond.instanceMethod Lib.objectInit ∈ fp_tb := fp_in (i := 17) (by decide +kernel) (by decide +kernel)
set_option maxRecDepth 100000 in
theorem fkC_obj : Cond.code Lib.objectInit ⟨#[0xb1]⟩ 1 none ∈ fp_tb := fp_in (i := 18) (by rfl) (by decide +kernel)
theorem fkLX6_7 : Cond.classLink RX6 7 RX4 ∈ fp_tb := fp_in (i := 19) (by decide +kernel) (by decide +kernel)
theorem fkNX4 : Cond.instantiable RX4 9 ∈ fp_tb := fp_in (i := 20) (by decide +kernel) (by decide +kernel)
theorem fkPX6_9 : lw_tbl[21]? = some (.methodLinkNest RX6 9 yX4_init RX6) := by decide +kernel
theorem fkI_X4_init : Cond.instanceMethod yX4_init ∈ fp_tb := fp_in (i := 22) (by decide +kernel) (by decide +kernel)
set_option maxRecDepth 100000 in
theorem fkC_X4_init : Cond.code yX4_init cX4_init 1 none ∈ fp_tb := fp_in (i := 23) (by rfl) (by decide +kernel)
theorem fkMX4_3 : Cond.methodLink RX4 3 Lib.objectInit ∈ fp_tb := fp_in (i := 24) (by decide +kernel) (by decide +kernel)
theorem fkLX4_9 : Cond.classLink RX4 9 RX2 ∈ fp_tb := fp_in (i := 25) (by decide +kernel) (by decide +kernel)
theorem fkNX2 : Cond.instantiable RX2 5 ∈ fp_tb := fp_in (i := 26) (by decide +kernel) (by decide +kernel)
theorem fkPX4_11 : lw_tbl[27]? = some (.methodLinkNest RX4 11 yX2_init RX6) := by decide +kernel
theorem fkI_X2_init : Cond.instanceMethod yX2_init ∈ fp_tb := fp_in (i := 28) (by decide +kernel) (by decide +kernel)
set_option maxRecDepth 100000 in
theorem fkC_X2_init : Cond.code yX2_init cX2_init 1 none ∈ fp_tb := fp_in (i := 29) (by rfl) (by decide +kernel)
theorem fkMX2_3 : Cond.methodLink RX2 3 Lib.objectInit ∈ fp_tb := fp_in (i := 30) (by decide +kernel) (by decide +kernel)
theorem fkFX2_9 : Cond.fieldLink RX2 9 RX2 "widths" "[I" ∈ fp_tb := fp_in (i := 31) (by decide +kernel) (by decide +kernel)
theorem fkFX2_15 : Cond.fieldLink RX2 15 RX2 "lefts" "[I" ∈ fp_tb := fp_in (i := 32) (by decide +kernel) (by decide +kernel)
theorem fkFX2_18 : Cond.fieldLink RX2 18 RX2 "rights" "[I" ∈ fp_tb := fp_in (i := 35) (by decide +kernel) (by decide +kernel)
theorem fkFX2_21 : Cond.fieldLink RX2 21 RX2 "cuts" "[I" ∈ fp_tb := fp_in (i := 38) (by decide +kernel) (by decide +kernel)
theorem fkFX2_24 : Cond.fieldLink RX2 24 RX2 "size" "I" ∈ fp_tb := fp_in (i := 41) (by decide +kernel) (by decide +kernel)
theorem fkA_int : Cond.arrayClass .int ∈ fp_tb := fp_in (i := 55) (by decide +kernel) (by decide +kernel)
theorem fkLX4_18 : Cond.classLink RX4 18 RX5 ∈ fp_tb := fp_in (i := 56) (by decide +kernel) (by decide +kernel)
theorem fkNX5 : Cond.instantiable RX5 3 ∈ fp_tb := fp_in (i := 57) (by decide +kernel) (by decide +kernel)
theorem fkPX4_20 : lw_tbl[58]? = some (.methodLinkNest RX4 20 yX5_init RX6) := by decide +kernel
theorem fkI_X5_init : Cond.instanceMethod yX5_init ∈ fp_tb := fp_in (i := 59) (by decide +kernel) (by decide +kernel)
set_option maxRecDepth 100000 in
theorem fkC_X5_init : Cond.code yX5_init cX5_init 1 none ∈ fp_tb := fp_in (i := 60) (by rfl) (by decide +kernel)
theorem fkMX5_3 : Cond.methodLink RX5 3 Lib.objectInit ∈ fp_tb := fp_in (i := 61) (by decide +kernel) (by decide +kernel)
theorem fkFX5_9 : Cond.fieldLink RX5 9 RX5 "lengths" "[I" ∈ fp_tb := fp_in (i := 62) (by decide +kernel) (by decide +kernel)
theorem fkFX5_15 : Cond.fieldLink RX5 15 RX5 "thicknesses" "[I" ∈ fp_tb := fp_in (i := 65) (by decide +kernel) (by decide +kernel)
theorem fkFX5_18 : Cond.fieldLink RX5 18 RX5 "size" "I" ∈ fp_tb := fp_in (i := 68) (by decide +kernel) (by decide +kernel)
theorem fkLX4_25 : Cond.classLink RX4 25 RX1 ∈ fp_tb := fp_in (i := 77) (by decide +kernel) (by decide +kernel)
theorem fkNX1 : Cond.instantiable RX1 4 ∈ fp_tb := fp_in (i := 78) (by decide +kernel) (by decide +kernel)
theorem fkPX4_27 : lw_tbl[79]? = some (.methodLinkNest RX4 27 yX1_init RX6) := by decide +kernel
theorem fkI_X1_init : Cond.instanceMethod yX1_init ∈ fp_tb := fp_in (i := 80) (by decide +kernel) (by decide +kernel)
set_option maxRecDepth 100000 in
theorem fkC_X1_init : Cond.code yX1_init cX1_init 1 none ∈ fp_tb := fp_in (i := 81) (by rfl) (by decide +kernel)
theorem fkMX1_3 : Cond.methodLink RX1 3 Lib.objectInit ∈ fp_tb := fp_in (i := 82) (by decide +kernel) (by decide +kernel)
theorem fkFX1_9 : Cond.fieldLink RX1 9 RX1 "profiles" "[I" ∈ fp_tb := fp_in (i := 83) (by decide +kernel) (by decide +kernel)
theorem fkFX1_15 : Cond.fieldLink RX1 15 RX1 "wants" "[I" ∈ fp_tb := fp_in (i := 86) (by decide +kernel) (by decide +kernel)
theorem fkFX1_18 : Cond.fieldLink RX1 18 RX1 "patiences" "[I" ∈ fp_tb := fp_in (i := 89) (by decide +kernel) (by decide +kernel)
theorem fkFX1_21 : Cond.fieldLink RX1 21 RX1 "size" "I" ∈ fp_tb := fp_in (i := 91) (by decide +kernel) (by decide +kernel)
theorem fkP_first : lw_tbl[103]? = some (.fieldLinkNest RX4 32 RX6 "FIRST_SETTING" "[I" RX6) := by decide +kernel
theorem fkY_FIRST : lw_tbl[104]? = some (.laysStatic RX6 "FIRST_SETTING" "[I") := by decide +kernel
theorem fkMX4_36 : Cond.methodLink RX4 36 ⟨"[I", "clone", "()Ljava/lang/Object;"⟩ ∈ fp_tb := fp_in (i := 105) (by decide +kernel) (by decide +kernel)
theorem fkS_clone : Cond.sameMethod "[I" "java/lang/Object" "clone" "()Ljava/lang/Object;" ∈ fp_tb := fp_in (i := 106) (by decide +kernel) (by decide +kernel)
theorem fkV_clone : Cond.native ⟨"java/lang/Object", "clone", "()Ljava/lang/Object;"⟩ ∈ fp_tb := fp_in (i := 107) (by decide +kernel) (by decide +kernel)
theorem fkI_clone : Cond.instanceMethod ⟨"java/lang/Object", "clone", "()Ljava/lang/Object;"⟩ ∈ fp_tb := fp_in (i := 108) (by decide +kernel) (by decide +kernel)
theorem fkT_clone : Cond.selects "[I" ⟨"[I", "clone", "()Ljava/lang/Object;"⟩ ⟨"java/lang/Object", "clone", "()Ljava/lang/Object;"⟩ ∈ fp_tb := fp_in (i := 109) (by decide +kernel) (by decide +kernel)
theorem fkP_cast : lw_tbl[110]? = some (.castable "[I" "java/lang/Cloneable") := by decide +kernel
theorem fkLX4_37 : Cond.classLink RX4 37 "[I" ∈ fp_tb := fp_in (i := 111) (by decide +kernel) (by decide +kernel)
theorem fkFX4_12 : Cond.fieldLink RX4 12 RX4 "profiles" "LFoldedProfiles$Profiles;" ∈ fp_tb := fp_in (i := 112) (by decide +kernel) (by decide +kernel)
theorem fkFX4_21 : Cond.fieldLink RX4 21 RX4 "strips" "LFoldedProfiles$Strips;" ∈ fp_tb := fp_in (i := 114) (by decide +kernel) (by decide +kernel)
theorem fkFX4_28 : Cond.fieldLink RX4 28 RX4 "line" "LFoldedProfiles$Line;" ∈ fp_tb := fp_in (i := 116) (by decide +kernel) (by decide +kernel)
theorem fkFX4_41 : Cond.fieldLink RX4 41 RX4 "settings" "[I" ∈ fp_tb := fp_in (i := 118) (by decide +kernel) (by decide +kernel)
theorem fkFX4_44 : Cond.fieldLink RX4 44 RX4 "coins" "I" ∈ fp_tb := fp_in (i := 120) (by decide +kernel) (by decide +kernel)
theorem fkFX4_48 : Cond.fieldLink RX4 48 RX4 "clock" "I" ∈ fp_tb := fp_in (i := 122) (by decide +kernel) (by decide +kernel)
theorem fkFX4_51 : Cond.fieldLink RX4 51 RX4 "served" "I" ∈ fp_tb := fp_in (i := 124) (by decide +kernel) (by decide +kernel)
theorem fkFX4_54 : Cond.fieldLink RX4 54 RX4 "gone" "I" ∈ fp_tb := fp_in (i := 126) (by decide +kernel) (by decide +kernel)
theorem fkFX4_57 : Cond.fieldLink RX4 57 RX4 "lengthCut" "I" ∈ fp_tb := fp_in (i := 128) (by decide +kernel) (by decide +kernel)
theorem fkLX6_26 : Cond.classLink RX6 26 RX0 ∈ fp_tb := fp_in (i := 149) (by decide +kernel) (by decide +kernel)
theorem fkNX0 : Cond.instantiable RX0 3 ∈ fp_tb := fp_in (i := 150) (by decide +kernel) (by decide +kernel)
theorem fkMX6_28 : Cond.methodLink RX6 28 yX0_init ∈ fp_tb := fp_in (i := 151) (by decide +kernel) (by decide +kernel)
theorem fkI_X0_init : Cond.instanceMethod yX0_init ∈ fp_tb := fp_in (i := 152) (by decide +kernel) (by decide +kernel)
set_option maxRecDepth 100000 in
theorem fkC_X0_init : Cond.code yX0_init cX0_init 2 none ∈ fp_tb := fp_in (i := 153) (by rfl) (by decide +kernel)
theorem fkMX0_3 : Cond.methodLink RX0 3 Lib.objectInit ∈ fp_tb := fp_in (i := 154) (by decide +kernel) (by decide +kernel)
theorem fkLX0_9 : Cond.classLink RX0 9 RX4 ∈ fp_tb := fp_in (i := 155) (by decide +kernel) (by decide +kernel)
theorem fkP_over : lw_tbl[156]? = some (.arrayOver (.object RX4)) := by decide +kernel
theorem fkPX0_24 : lw_tbl[157]? = some (.methodLinkNest RX0 24 yX4_init RX6) := by decide +kernel
theorem fkFX0_11 : Cond.fieldLink RX0 11 RX0 "states" "[LFoldedProfiles$Stall;" ∈ fp_tb := fp_in (i := 158) (by decide +kernel) (by decide +kernel)
theorem fkFX0_17 : Cond.fieldLink RX0 17 RX0 "oldest" "I" ∈ fp_tb := fp_in (i := 159) (by decide +kernel) (by decide +kernel)
theorem fkFX0_21 : Cond.fieldLink RX0 21 RX0 "size" "I" ∈ fp_tb := fp_in (i := 160) (by decide +kernel) (by decide +kernel)
theorem fkLX6_33 : Cond.classLink RX6 33 RX3 ∈ fp_tb := fp_in (i := 169) (by decide +kernel) (by decide +kernel)
theorem fkNX3 : Cond.instantiable RX3 7 ∈ fp_tb := fp_in (i := 170) (by decide +kernel) (by decide +kernel)
theorem fkPX6_35 : lw_tbl[171]? = some (.methodLinkNest RX6 35 yX3_init RX6) := by decide +kernel
theorem fkI_X3_init : Cond.instanceMethod yX3_init ∈ fp_tb := fp_in (i := 172) (by decide +kernel) (by decide +kernel)
set_option maxRecDepth 100000 in
theorem fkC_X3_init : Cond.code yX3_init cX3_init 1 none ∈ fp_tb := fp_in (i := 173) (by rfl) (by decide +kernel)
theorem fkMX3_3 : Cond.methodLink RX3 3 Lib.objectInit ∈ fp_tb := fp_in (i := 174) (by decide +kernel) (by decide +kernel)
theorem fkFX3_9 : Cond.fieldLink RX3 9 RX3 "signs" "[C" ∈ fp_tb := fp_in (i := 175) (by decide +kernel) (by decide +kernel)
theorem fkFX3_15 : Cond.fieldLink RX3 15 RX3 "length" "I" ∈ fp_tb := fp_in (i := 177) (by decide +kernel) (by decide +kernel)
theorem fkFX3_19 : Cond.fieldLink RX3 19 RX3 "widths" "[I" ∈ fp_tb := fp_in (i := 179) (by decide +kernel) (by decide +kernel)
theorem fkFX3_23 : Cond.fieldLink RX3 23 RX3 "wants" "[I" ∈ fp_tb := fp_in (i := 181) (by decide +kernel) (by decide +kernel)
theorem fkFX3_26 : Cond.fieldLink RX3 26 RX3 "patiences" "[I" ∈ fp_tb := fp_in (i := 183) (by decide +kernel) (by decide +kernel)
theorem fkFX3_29 : Cond.fieldLink RX3 29 RX3 "entries" "I" ∈ fp_tb := fp_in (i := 185) (by decide +kernel) (by decide +kernel)
theorem fkFX3_32 : Cond.fieldLink RX3 32 RX3 "at" "I" ∈ fp_tb := fp_in (i := 187) (by decide +kernel) (by decide +kernel)
theorem fkA_char : Cond.arrayClass .char ∈ fp_tb := fp_in (i := 204) (by decide +kernel) (by decide +kernel)
theorem fkFX6_10 : Cond.fieldLink RX6 10 RX6 "stall" "LFoldedProfiles$Stall;" ∈ fp_tb := fp_in (i := 205) (by decide +kernel) (by decide +kernel)
theorem fkFX6_16 : Cond.fieldLink RX6 16 RX6 "trial" "LFoldedProfiles$Stall;" ∈ fp_tb := fp_in (i := 206) (by decide +kernel) (by decide +kernel)
theorem fkFX6_19 : Cond.fieldLink RX6 19 RX6 "snapshot" "LFoldedProfiles$Stall;" ∈ fp_tb := fp_in (i := 207) (by decide +kernel) (by decide +kernel)
theorem fkFX6_22 : Cond.fieldLink RX6 22 RX6 "snapshotTaken" "Z" ∈ fp_tb := fp_in (i := 208) (by decide +kernel) (by decide +kernel)
theorem fkFX6_29 : Cond.fieldLink RX6 29 RX6 "history" "LFoldedProfiles$History;" ∈ fp_tb := fp_in (i := 209) (by decide +kernel) (by decide +kernel)
theorem fkFX6_36 : Cond.fieldLink RX6 36 RX6 "text" "LFoldedProfiles$SitterText;" ∈ fp_tb := fp_in (i := 210) (by decide +kernel) (by decide +kernel)
theorem fkFX6_168 : Cond.fieldLink RX6 168 RX6 "LEAST_SETTING" "[I" ∈ fp_tb := fp_in (i := 470) (by decide +kernel) (by decide +kernel)
theorem fkY_LEAST : lw_tbl[471]? = some (.laysStatic RX6 "LEAST_SETTING" "[I") := by decide +kernel
theorem fkFX6_171 : Cond.fieldLink RX6 171 RX6 "MOST_SETTING" "[I" ∈ fp_tb := fp_in (i := 472) (by decide +kernel) (by decide +kernel)
theorem fkY_MOST : lw_tbl[473]? = some (.laysStatic RX6 "MOST_SETTING" "[I") := by decide +kernel
theorem dX0_init_0 : decode cX0_init 0 = .ok (.aload_n 0, 1) := by decide +kernel
theorem dX0_init_1 : decode cX0_init 1 = .ok (.invokespecial 3, 3) := by decide +kernel
theorem dX0_init_4 : decode cX0_init 4 = .ok (.aload_n 0, 1) := by decide +kernel
theorem dX0_init_5 : decode cX0_init 5 = .ok (.iconst 4, 1) := by decide +kernel
theorem dX0_init_6 : decode cX0_init 6 = .ok (.anewarray 9, 3) := by decide +kernel
theorem dX0_init_9 : decode cX0_init 9 = .ok (.putfield 11, 3) := by decide +kernel
theorem dX0_init_12 : decode cX0_init 12 = .ok (.aload_n 0, 1) := by decide +kernel
theorem dX0_init_13 : decode cX0_init 13 = .ok (.iconst 0, 1) := by decide +kernel
theorem dX0_init_14 : decode cX0_init 14 = .ok (.putfield 17, 3) := by decide +kernel
theorem dX0_init_17 : decode cX0_init 17 = .ok (.aload_n 0, 1) := by decide +kernel
theorem dX0_init_18 : decode cX0_init 18 = .ok (.iconst 0, 1) := by decide +kernel
theorem dX0_init_19 : decode cX0_init 19 = .ok (.putfield 21, 3) := by decide +kernel
theorem dX0_init_22 : decode cX0_init 22 = .ok (.iconst 0, 1) := by decide +kernel
theorem dX0_init_23 : decode cX0_init 23 = .ok (.istore_n 1, 1) := by decide +kernel
theorem dX0_init_24 : decode cX0_init 24 = .ok (.iload_n 1, 1) := by decide +kernel
theorem dX0_init_25 : decode cX0_init 25 = .ok (.iconst 4, 1) := by decide +kernel
theorem dX0_init_26 : decode cX0_init 26 = .ok (.if_icmp .ge 22, 3) := by decide +kernel
theorem dX0_init_29 : decode cX0_init 29 = .ok (.aload_n 0, 1) := by decide +kernel
theorem dX0_init_30 : decode cX0_init 30 = .ok (.getfield 11, 3) := by decide +kernel
theorem dX0_init_33 : decode cX0_init 33 = .ok (.iload_n 1, 1) := by decide +kernel
theorem dX0_init_34 : decode cX0_init 34 = .ok (.new 9, 3) := by decide +kernel
theorem dX0_init_37 : decode cX0_init 37 = .ok (.dup, 1) := by decide +kernel
theorem dX0_init_38 : decode cX0_init 38 = .ok (.invokespecial 24, 3) := by decide +kernel
theorem dX0_init_41 : decode cX0_init 41 = .ok (.aastore, 1) := by decide +kernel
theorem dX0_init_42 : decode cX0_init 42 = .ok (.iinc 1 1, 3) := by decide +kernel
theorem dX0_init_45 : decode cX0_init 45 = .ok (.goto (-21), 3) := by decide +kernel
theorem dX0_init_48 : decode cX0_init 48 = .ok (.return_, 1) := by decide +kernel
theorem dX1_init_0 : decode cX1_init 0 = .ok (.aload_n 0, 1) := by decide +kernel
theorem dX1_init_1 : decode cX1_init 1 = .ok (.invokespecial 3, 3) := by decide +kernel
theorem dX1_init_4 : decode cX1_init 4 = .ok (.aload_n 0, 1) := by decide +kernel
theorem dX1_init_5 : decode cX1_init 5 = .ok (.bipush 12, 2) := by decide +kernel
theorem dX1_init_7 : decode cX1_init 7 = .ok (.newarray .int, 2) := by decide +kernel
theorem dX1_init_9 : decode cX1_init 9 = .ok (.putfield 9, 3) := by decide +kernel
theorem dX1_init_12 : decode cX1_init 12 = .ok (.aload_n 0, 1) := by decide +kernel
theorem dX1_init_13 : decode cX1_init 13 = .ok (.bipush 12, 2) := by decide +kernel
theorem dX1_init_15 : decode cX1_init 15 = .ok (.newarray .int, 2) := by decide +kernel
theorem dX1_init_17 : decode cX1_init 17 = .ok (.putfield 15, 3) := by decide +kernel
theorem dX1_init_20 : decode cX1_init 20 = .ok (.aload_n 0, 1) := by decide +kernel
theorem dX1_init_21 : decode cX1_init 21 = .ok (.bipush 12, 2) := by decide +kernel
theorem dX1_init_23 : decode cX1_init 23 = .ok (.newarray .int, 2) := by decide +kernel
theorem dX1_init_25 : decode cX1_init 25 = .ok (.putfield 18, 3) := by decide +kernel
theorem dX1_init_28 : decode cX1_init 28 = .ok (.aload_n 0, 1) := by decide +kernel
theorem dX1_init_29 : decode cX1_init 29 = .ok (.iconst 0, 1) := by decide +kernel
theorem dX1_init_30 : decode cX1_init 30 = .ok (.putfield 21, 3) := by decide +kernel
theorem dX1_init_33 : decode cX1_init 33 = .ok (.return_, 1) := by decide +kernel
theorem dX2_init_0 : decode cX2_init 0 = .ok (.aload_n 0, 1) := by decide +kernel
theorem dX2_init_1 : decode cX2_init 1 = .ok (.invokespecial 3, 3) := by decide +kernel
theorem dX2_init_4 : decode cX2_init 4 = .ok (.aload_n 0, 1) := by decide +kernel
theorem dX2_init_5 : decode cX2_init 5 = .ok (.bipush 80, 2) := by decide +kernel
theorem dX2_init_7 : decode cX2_init 7 = .ok (.newarray .int, 2) := by decide +kernel
theorem dX2_init_9 : decode cX2_init 9 = .ok (.putfield 9, 3) := by decide +kernel
theorem dX2_init_12 : decode cX2_init 12 = .ok (.aload_n 0, 1) := by decide +kernel
theorem dX2_init_13 : decode cX2_init 13 = .ok (.bipush 10, 2) := by decide +kernel
theorem dX2_init_15 : decode cX2_init 15 = .ok (.newarray .int, 2) := by decide +kernel
theorem dX2_init_17 : decode cX2_init 17 = .ok (.putfield 15, 3) := by decide +kernel
theorem dX2_init_20 : decode cX2_init 20 = .ok (.aload_n 0, 1) := by decide +kernel
theorem dX2_init_21 : decode cX2_init 21 = .ok (.bipush 10, 2) := by decide +kernel
theorem dX2_init_23 : decode cX2_init 23 = .ok (.newarray .int, 2) := by decide +kernel
theorem dX2_init_25 : decode cX2_init 25 = .ok (.putfield 18, 3) := by decide +kernel
theorem dX2_init_28 : decode cX2_init 28 = .ok (.aload_n 0, 1) := by decide +kernel
theorem dX2_init_29 : decode cX2_init 29 = .ok (.bipush 10, 2) := by decide +kernel
theorem dX2_init_31 : decode cX2_init 31 = .ok (.newarray .int, 2) := by decide +kernel
theorem dX2_init_33 : decode cX2_init 33 = .ok (.putfield 21, 3) := by decide +kernel
theorem dX2_init_36 : decode cX2_init 36 = .ok (.aload_n 0, 1) := by decide +kernel
theorem dX2_init_37 : decode cX2_init 37 = .ok (.iconst 0, 1) := by decide +kernel
theorem dX2_init_38 : decode cX2_init 38 = .ok (.putfield 24, 3) := by decide +kernel
theorem dX2_init_41 : decode cX2_init 41 = .ok (.return_, 1) := by decide +kernel
theorem dX3_init_0 : decode cX3_init 0 = .ok (.aload_n 0, 1) := by decide +kernel
theorem dX3_init_1 : decode cX3_init 1 = .ok (.invokespecial 3, 3) := by decide +kernel
theorem dX3_init_4 : decode cX3_init 4 = .ok (.aload_n 0, 1) := by decide +kernel
theorem dX3_init_5 : decode cX3_init 5 = .ok (.bipush 80, 2) := by decide +kernel
theorem dX3_init_7 : decode cX3_init 7 = .ok (.newarray .char, 2) := by decide +kernel
theorem dX3_init_9 : decode cX3_init 9 = .ok (.putfield 9, 3) := by decide +kernel
theorem dX3_init_12 : decode cX3_init 12 = .ok (.aload_n 0, 1) := by decide +kernel
theorem dX3_init_13 : decode cX3_init 13 = .ok (.iconst 0, 1) := by decide +kernel
theorem dX3_init_14 : decode cX3_init 14 = .ok (.putfield 15, 3) := by decide +kernel
theorem dX3_init_17 : decode cX3_init 17 = .ok (.aload_n 0, 1) := by decide +kernel
theorem dX3_init_18 : decode cX3_init 18 = .ok (.bipush 64, 2) := by decide +kernel
theorem dX3_init_20 : decode cX3_init 20 = .ok (.newarray .int, 2) := by decide +kernel
theorem dX3_init_22 : decode cX3_init 22 = .ok (.putfield 19, 3) := by decide +kernel
theorem dX3_init_25 : decode cX3_init 25 = .ok (.aload_n 0, 1) := by decide +kernel
theorem dX3_init_26 : decode cX3_init 26 = .ok (.bipush 8, 2) := by decide +kernel
theorem dX3_init_28 : decode cX3_init 28 = .ok (.newarray .int, 2) := by decide +kernel
theorem dX3_init_30 : decode cX3_init 30 = .ok (.putfield 23, 3) := by decide +kernel
theorem dX3_init_33 : decode cX3_init 33 = .ok (.aload_n 0, 1) := by decide +kernel
theorem dX3_init_34 : decode cX3_init 34 = .ok (.bipush 8, 2) := by decide +kernel
theorem dX3_init_36 : decode cX3_init 36 = .ok (.newarray .int, 2) := by decide +kernel
theorem dX3_init_38 : decode cX3_init 38 = .ok (.putfield 26, 3) := by decide +kernel
theorem dX3_init_41 : decode cX3_init 41 = .ok (.aload_n 0, 1) := by decide +kernel
theorem dX3_init_42 : decode cX3_init 42 = .ok (.iconst 0, 1) := by decide +kernel
theorem dX3_init_43 : decode cX3_init 43 = .ok (.putfield 29, 3) := by decide +kernel
theorem dX3_init_46 : decode cX3_init 46 = .ok (.aload_n 0, 1) := by decide +kernel
theorem dX3_init_47 : decode cX3_init 47 = .ok (.iconst 0, 1) := by decide +kernel
theorem dX3_init_48 : decode cX3_init 48 = .ok (.putfield 32, 3) := by decide +kernel
theorem dX3_init_51 : decode cX3_init 51 = .ok (.return_, 1) := by decide +kernel
theorem dX4_init_0 : decode cX4_init 0 = .ok (.aload_n 0, 1) := by decide +kernel
theorem dX4_init_1 : decode cX4_init 1 = .ok (.invokespecial 3, 3) := by decide +kernel
theorem dX4_init_4 : decode cX4_init 4 = .ok (.aload_n 0, 1) := by decide +kernel
theorem dX4_init_5 : decode cX4_init 5 = .ok (.new 9, 3) := by decide +kernel
theorem dX4_init_8 : decode cX4_init 8 = .ok (.dup, 1) := by decide +kernel
theorem dX4_init_9 : decode cX4_init 9 = .ok (.invokespecial 11, 3) := by decide +kernel
theorem dX4_init_12 : decode cX4_init 12 = .ok (.putfield 12, 3) := by decide +kernel
theorem dX4_init_15 : decode cX4_init 15 = .ok (.aload_n 0, 1) := by decide +kernel
theorem dX4_init_16 : decode cX4_init 16 = .ok (.new 18, 3) := by decide +kernel
theorem dX4_init_19 : decode cX4_init 19 = .ok (.dup, 1) := by decide +kernel
theorem dX4_init_20 : decode cX4_init 20 = .ok (.invokespecial 20, 3) := by decide +kernel
theorem dX4_init_23 : decode cX4_init 23 = .ok (.putfield 21, 3) := by decide +kernel
theorem dX4_init_26 : decode cX4_init 26 = .ok (.aload_n 0, 1) := by decide +kernel
theorem dX4_init_27 : decode cX4_init 27 = .ok (.new 25, 3) := by decide +kernel
theorem dX4_init_30 : decode cX4_init 30 = .ok (.dup, 1) := by decide +kernel
theorem dX4_init_31 : decode cX4_init 31 = .ok (.invokespecial 27, 3) := by decide +kernel
theorem dX4_init_34 : decode cX4_init 34 = .ok (.putfield 28, 3) := by decide +kernel
theorem dX4_init_37 : decode cX4_init 37 = .ok (.aload_n 0, 1) := by decide +kernel
theorem dX4_init_38 : decode cX4_init 38 = .ok (.getstatic 32, 3) := by decide +kernel
theorem dX4_init_41 : decode cX4_init 41 = .ok (.invokevirtual 36, 3) := by decide +kernel
theorem dX4_init_44 : decode cX4_init 44 = .ok (.checkcast 37, 3) := by decide +kernel
theorem dX4_init_47 : decode cX4_init 47 = .ok (.putfield 41, 3) := by decide +kernel
theorem dX4_init_50 : decode cX4_init 50 = .ok (.aload_n 0, 1) := by decide +kernel
theorem dX4_init_51 : decode cX4_init 51 = .ok (.bipush 10, 2) := by decide +kernel
theorem dX4_init_53 : decode cX4_init 53 = .ok (.putfield 44, 3) := by decide +kernel
theorem dX4_init_56 : decode cX4_init 56 = .ok (.aload_n 0, 1) := by decide +kernel
theorem dX4_init_57 : decode cX4_init 57 = .ok (.iconst 0, 1) := by decide +kernel
theorem dX4_init_58 : decode cX4_init 58 = .ok (.putfield 48, 3) := by decide +kernel
theorem dX4_init_61 : decode cX4_init 61 = .ok (.aload_n 0, 1) := by decide +kernel
theorem dX4_init_62 : decode cX4_init 62 = .ok (.iconst 0, 1) := by decide +kernel
theorem dX4_init_63 : decode cX4_init 63 = .ok (.putfield 51, 3) := by decide +kernel
theorem dX4_init_66 : decode cX4_init 66 = .ok (.aload_n 0, 1) := by decide +kernel
theorem dX4_init_67 : decode cX4_init 67 = .ok (.iconst 0, 1) := by decide +kernel
theorem dX4_init_68 : decode cX4_init 68 = .ok (.putfield 54, 3) := by decide +kernel
theorem dX4_init_71 : decode cX4_init 71 = .ok (.aload_n 0, 1) := by decide +kernel
theorem dX4_init_72 : decode cX4_init 72 = .ok (.iconst 0, 1) := by decide +kernel
theorem dX4_init_73 : decode cX4_init 73 = .ok (.putfield 57, 3) := by decide +kernel
theorem dX4_init_76 : decode cX4_init 76 = .ok (.return_, 1) := by decide +kernel
theorem dX5_init_0 : decode cX5_init 0 = .ok (.aload_n 0, 1) := by decide +kernel
theorem dX5_init_1 : decode cX5_init 1 = .ok (.invokespecial 3, 3) := by decide +kernel
theorem dX5_init_4 : decode cX5_init 4 = .ok (.aload_n 0, 1) := by decide +kernel
theorem dX5_init_5 : decode cX5_init 5 = .ok (.bipush 6, 2) := by decide +kernel
theorem dX5_init_7 : decode cX5_init 7 = .ok (.newarray .int, 2) := by decide +kernel
theorem dX5_init_9 : decode cX5_init 9 = .ok (.putfield 9, 3) := by decide +kernel
theorem dX5_init_12 : decode cX5_init 12 = .ok (.aload_n 0, 1) := by decide +kernel
theorem dX5_init_13 : decode cX5_init 13 = .ok (.bipush 6, 2) := by decide +kernel
theorem dX5_init_15 : decode cX5_init 15 = .ok (.newarray .int, 2) := by decide +kernel
theorem dX5_init_17 : decode cX5_init 17 = .ok (.putfield 15, 3) := by decide +kernel
theorem dX5_init_20 : decode cX5_init 20 = .ok (.aload_n 0, 1) := by decide +kernel
theorem dX5_init_21 : decode cX5_init 21 = .ok (.iconst 0, 1) := by decide +kernel
theorem dX5_init_22 : decode cX5_init 22 = .ok (.putfield 18, 3) := by decide +kernel
theorem dX5_init_25 : decode cX5_init 25 = .ok (.return_, 1) := by decide +kernel
theorem dX6_init_0 : decode cX6_init 0 = .ok (.aload_n 0, 1) := by decide +kernel
theorem dX6_init_1 : decode cX6_init 1 = .ok (.invokespecial 1, 3) := by decide +kernel
theorem dX6_init_4 : decode cX6_init 4 = .ok (.aload_n 0, 1) := by decide +kernel
theorem dX6_init_5 : decode cX6_init 5 = .ok (.new 7, 3) := by decide +kernel
theorem dX6_init_8 : decode cX6_init 8 = .ok (.dup, 1) := by decide +kernel
theorem dX6_init_9 : decode cX6_init 9 = .ok (.invokespecial 9, 3) := by decide +kernel
theorem dX6_init_12 : decode cX6_init 12 = .ok (.putfield 10, 3) := by decide +kernel
theorem dX6_init_15 : decode cX6_init 15 = .ok (.aload_n 0, 1) := by decide +kernel
theorem dX6_init_16 : decode cX6_init 16 = .ok (.new 7, 3) := by decide +kernel
theorem dX6_init_19 : decode cX6_init 19 = .ok (.dup, 1) := by decide +kernel
theorem dX6_init_20 : decode cX6_init 20 = .ok (.invokespecial 9, 3) := by decide +kernel
theorem dX6_init_23 : decode cX6_init 23 = .ok (.putfield 16, 3) := by decide +kernel
theorem dX6_init_26 : decode cX6_init 26 = .ok (.aload_n 0, 1) := by decide +kernel
theorem dX6_init_27 : decode cX6_init 27 = .ok (.new 7, 3) := by decide +kernel
theorem dX6_init_30 : decode cX6_init 30 = .ok (.dup, 1) := by decide +kernel
theorem dX6_init_31 : decode cX6_init 31 = .ok (.invokespecial 9, 3) := by decide +kernel
theorem dX6_init_34 : decode cX6_init 34 = .ok (.putfield 19, 3) := by decide +kernel
theorem dX6_init_37 : decode cX6_init 37 = .ok (.aload_n 0, 1) := by decide +kernel
theorem dX6_init_38 : decode cX6_init 38 = .ok (.iconst 0, 1) := by decide +kernel
theorem dX6_init_39 : decode cX6_init 39 = .ok (.putfield 22, 3) := by decide +kernel
theorem dX6_init_42 : decode cX6_init 42 = .ok (.aload_n 0, 1) := by decide +kernel
theorem dX6_init_43 : decode cX6_init 43 = .ok (.new 26, 3) := by decide +kernel
theorem dX6_init_46 : decode cX6_init 46 = .ok (.dup, 1) := by decide +kernel
theorem dX6_init_47 : decode cX6_init 47 = .ok (.invokespecial 28, 3) := by decide +kernel
theorem dX6_init_50 : decode cX6_init 50 = .ok (.putfield 29, 3) := by decide +kernel
theorem dX6_init_53 : decode cX6_init 53 = .ok (.aload_n 0, 1) := by decide +kernel
theorem dX6_init_54 : decode cX6_init 54 = .ok (.new 33, 3) := by decide +kernel
theorem dX6_init_57 : decode cX6_init 57 = .ok (.dup, 1) := by decide +kernel
theorem dX6_init_58 : decode cX6_init 58 = .ok (.invokespecial 35, 3) := by decide +kernel
theorem dX6_init_61 : decode cX6_init 61 = .ok (.putfield 36, 3) := by decide +kernel
theorem dX6_init_64 : decode cX6_init 64 = .ok (.return_, 1) := by decide +kernel
theorem dL_law_0 : decode cL_law 0 = .ok (.new 10, 3) := by decide +kernel
theorem dL_law_3 : decode cL_law 3 = .ok (.dup, 1) := by decide +kernel
theorem dL_law_4 : decode cL_law 4 = .ok (.invokespecial 78, 3) := by decide +kernel
theorem dL_law_7 : decode cL_law 7 = .ok (.astore_n 1, 1) := by decide +kernel
theorem dL_law_8 : decode cL_law 8 = .ok (.aload_n 1, 1) := by decide +kernel
theorem dL_law_9 : decode cL_law 9 = .ok (.invokevirtual 79, 3) := by decide +kernel
theorem dL_law_12 : decode cL_law 12 = .ok (.bipush (-5), 2) := by decide +kernel
theorem dL_law_14 : decode cL_law 14 = .ok (.if_icmp .ne 130, 3) := by decide +kernel
theorem dL_law_17 : decode cL_law 17 = .ok (.aload_n 1, 1) := by decide +kernel
