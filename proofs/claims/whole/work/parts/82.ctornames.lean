theorem zko_i : Cond.instanceMethod Lib.objectInit ∈ zt_T := zt_of1 23 (by decide +kernel) rfl
theorem zko_c : Cond.code Lib.objectInit ⟨#[0xb1]⟩ 1 none ∈ zt_T := zt_of1 24 (by decide +kernel) rfl
theorem zko_FR_3 : Cond.methodLink "FrameProcessor$Frames" 3 Lib.objectInit ∈ zt_T := zt_of1 141 (by decide +kernel) rfl
theorem zko_WS_5 : Cond.methodLink "FrameProcessor$WorkStack" 5 Lib.objectInit ∈ zt_T := zt_of1 151 (by decide +kernel) rfl
theorem zq_int : Cond.arrayClass .int ∈ zt_T := zt_of1 56 (by decide +kernel) rfl
theorem zko_IN_3 : Cond.methodLink "FrameProcessor$Instruction" 3 Lib.objectInit ∈ zt_T := zt_of1 167 (by decide +kernel) rfl
theorem zko_TA_3 : Cond.methodLink "FrameProcessor$Task" 3 Lib.objectInit ∈ zt_T := zt_of1 70 (by decide +kernel) rfl
theorem zf_TA_15 : Cond.fieldLink "FrameProcessor$Task" 15 "FrameProcessor$Task" "number" "I" ∈ zt_T := zt_of1 71 (by decide +kernel) rfl
theorem zko_ME_5 : Cond.methodLink "FrameProcessor$Memory" 5 Lib.objectInit ∈ zt_T := zt_of1 30 (by decide +kernel) rfl
theorem zq_boolean : Cond.arrayClass .boolean ∈ zt_T := zt_of1 57 (by decide +kernel) rfl
theorem zko_RO_3 : Cond.methodLink "FrameProcessor$Roster" 3 Lib.objectInit ∈ zt_T := zt_of1 63 (by decide +kernel) rfl
theorem zkc_RO_11 : Cond.classLink "FrameProcessor$Roster" 11 "FrameProcessor$Task" ∈ zt_T := zt_of1 64 (by decide +kernel) rfl
theorem zkn_TA : Cond.instantiable "FrameProcessor$Task" 10 ∈ zt_T := zt_of1 66 (by decide +kernel) rfl
set_option maxRecDepth 20000 in
theorem zd_TA_init : Cond.code yTA_init prog_7_method_1_code 2 none ∈ zt_T := zt_of1 69 rfl rfl
theorem zo_TA_init : Cond.instanceMethod yTA_init ∈ zt_T := zt_of1 68 (by decide +kernel) rfl
theorem zm_RO_17 : Cond.methodLink "FrameProcessor$Roster" 17 yTA_init ∈ zt_T := zt_of1 67 (by decide +kernel) rfl
theorem zko_PR_3 : Cond.methodLink "FrameProcessor$Processor" 3 Lib.objectInit ∈ zt_T := zt_of1 135 (by decide +kernel) rfl
theorem zkc_PR_19 : Cond.classLink "FrameProcessor$Processor" 19 "FrameProcessor$Frames" ∈ zt_T := zt_of1 136 (by decide +kernel) rfl
theorem zkn_FR : Cond.instantiable "FrameProcessor$Frames" 1 ∈ zt_T := zt_of1 137 (by decide +kernel) rfl
set_option maxRecDepth 20000 in
theorem zd_FR_init : Cond.code yFR_init prog_2_method_1_code 2 none ∈ zt_T := zt_of1 140 rfl rfl
theorem zo_FR_init : Cond.instanceMethod yFR_init ∈ zt_T := zt_of1 139 (by decide +kernel) rfl
theorem zm_PR_21 : Cond.methodLink "FrameProcessor$Processor" 21 yFR_init ∈ zt_T := zt_of1 138 (by decide +kernel) rfl
theorem zkc_PR_28 : Cond.classLink "FrameProcessor$Processor" 28 "FrameProcessor$WorkStack" ∈ zt_T := zt_of1 146 (by decide +kernel) rfl
theorem zkn_WS : Cond.instantiable "FrameProcessor$WorkStack" 3 ∈ zt_T := zt_of1 147 (by decide +kernel) rfl
set_option maxRecDepth 20000 in
theorem zd_WS_init : Cond.code yWS_init prog_8_method_1_code 2 none ∈ zt_T := zt_of1 150 rfl rfl
theorem zo_WS_init : Cond.instanceMethod yWS_init ∈ zt_T := zt_of1 149 (by decide +kernel) rfl
theorem zm_PR_30 : Cond.methodLink "FrameProcessor$Processor" 30 yWS_init ∈ zt_T := zt_of1 148 (by decide +kernel) rfl
theorem zkc_PR_35 : Cond.classLink "FrameProcessor$Processor" 35 "FrameProcessor$Instruction" ∈ zt_T := zt_of1 162 (by decide +kernel) rfl
theorem zkn_IN : Cond.instantiable "FrameProcessor$Instruction" 8 ∈ zt_T := zt_of1 163 (by decide +kernel) rfl
set_option maxRecDepth 20000 in
theorem zd_IN_init : Cond.code yIN_init prog_3_method_1_code 3 none ∈ zt_T := zt_of1 166 rfl rfl
theorem zo_IN_init : Cond.instanceMethod yIN_init ∈ zt_T := zt_of1 165 (by decide +kernel) rfl
theorem zm_PR_37 : Cond.methodLink "FrameProcessor$Processor" 37 yIN_init ∈ zt_T := zt_of1 164 (by decide +kernel) rfl
theorem zko_FP_1 : Cond.methodLink "FrameProcessor" 1 Lib.objectInit ∈ zt_T := zt_of1 22 (by decide +kernel) rfl
theorem zkc_FP_7 : Cond.classLink "FrameProcessor" 7 "FrameProcessor$Memory" ∈ zt_T := zt_of1 25 (by decide +kernel) rfl
theorem zkn_ME : Cond.instantiable "FrameProcessor$Memory" 8 ∈ zt_T := zt_of1 26 (by decide +kernel) rfl
set_option maxRecDepth 20000 in
theorem zd_ME_init : Cond.code yME_init prog_4_method_1_code 2 none ∈ zt_T := zt_of1 29 rfl rfl
theorem zo_ME_init : Cond.instanceMethod yME_init ∈ zt_T := zt_of1 28 (by decide +kernel) rfl
theorem zm_FP_9 : Cond.methodLink "FrameProcessor" 9 yME_init ∈ zt_T := zt_of1 27 (by decide +kernel) rfl
theorem zkc_FP_16 : Cond.classLink "FrameProcessor" 16 "FrameProcessor$Roster" ∈ zt_T := zt_of1 58 (by decide +kernel) rfl
theorem zkn_RO : Cond.instantiable "FrameProcessor$Roster" 2 ∈ zt_T := zt_of1 59 (by decide +kernel) rfl
set_option maxRecDepth 20000 in
theorem zd_RO_init : Cond.code yRO_init prog_6_method_1_code 2 none ∈ zt_T := zt_of1 62 rfl rfl
theorem zo_RO_init : Cond.instanceMethod yRO_init ∈ zt_T := zt_of1 61 (by decide +kernel) rfl
theorem zm_FP_18 : Cond.methodLink "FrameProcessor" 18 yRO_init ∈ zt_T := zt_of1 60 (by decide +kernel) rfl
theorem zkc_FP_23 : Cond.classLink "FrameProcessor" 23 "FrameProcessor$Processor" ∈ zt_T := zt_of1 130 (by decide +kernel) rfl
theorem zkn_PR : Cond.instantiable "FrameProcessor$Processor" 17 ∈ zt_T := zt_of1 131 (by decide +kernel) rfl
set_option maxRecDepth 20000 in
theorem zd_PR_init : Cond.code yPR_init prog_5_method_1_code 3 none ∈ zt_T := zt_of1 134 rfl rfl
theorem zo_PR_init : Cond.instanceMethod yPR_init ∈ zt_T := zt_of1 133 (by decide +kernel) rfl
theorem zm_FP_25 : Cond.methodLink "FrameProcessor" 25 yPR_init ∈ zt_T := zt_of1 132 (by decide +kernel) rfl
theorem zko_MO_1 : Cond.methodLink "FrameProcessorModel" 1 Lib.objectInit ∈ zt_T := zt_of4 56 (by decide +kernel) rfl
theorem zq_long : Cond.arrayClass .long ∈ zt_T := zt_of4 154 (by decide +kernel) rfl
theorem zz_ls_3072 : (Int16.ofInt (3072)).toInt32 = (3072 : Int32) := by decide +kernel
theorem zz_lb_48 : (Int8.ofInt (48)).toInt32 = (48 : Int32) := by decide +kernel
theorem dFP_init_0 : decode prog_1_method_1_code 0 = .ok (.aload_n 0, 1) := by decide +kernel
theorem dFP_init_1 : decode prog_1_method_1_code 1 = .ok (.invokespecial 1, 3) := by decide +kernel
theorem dFP_init_4 : decode prog_1_method_1_code 4 = .ok (.aload_n 0, 1) := by decide +kernel
theorem dFP_init_5 : decode prog_1_method_1_code 5 = .ok (.new 7, 3) := by decide +kernel
theorem dFP_init_8 : decode prog_1_method_1_code 8 = .ok (.dup, 1) := by decide +kernel
theorem dFP_init_9 : decode prog_1_method_1_code 9 = .ok (.invokespecial 9, 3) := by decide +kernel
theorem dFP_init_12 : decode prog_1_method_1_code 12 = .ok (.putfield 10, 3) := by decide +kernel
theorem dFP_init_15 : decode prog_1_method_1_code 15 = .ok (.aload_n 0, 1) := by decide +kernel
theorem dFP_init_16 : decode prog_1_method_1_code 16 = .ok (.new 16, 3) := by decide +kernel
theorem dFP_init_19 : decode prog_1_method_1_code 19 = .ok (.dup, 1) := by decide +kernel
theorem dFP_init_20 : decode prog_1_method_1_code 20 = .ok (.invokespecial 18, 3) := by decide +kernel
theorem dFP_init_23 : decode prog_1_method_1_code 23 = .ok (.putfield 19, 3) := by decide +kernel
theorem dFP_init_26 : decode prog_1_method_1_code 26 = .ok (.aload_n 0, 1) := by decide +kernel
theorem dFP_init_27 : decode prog_1_method_1_code 27 = .ok (.new 23, 3) := by decide +kernel
theorem dFP_init_30 : decode prog_1_method_1_code 30 = .ok (.dup, 1) := by decide +kernel
theorem dFP_init_31 : decode prog_1_method_1_code 31 = .ok (.aload_n 0, 1) := by decide +kernel
theorem dFP_init_32 : decode prog_1_method_1_code 32 = .ok (.getfield 10, 3) := by decide +kernel
theorem dFP_init_35 : decode prog_1_method_1_code 35 = .ok (.aload_n 0, 1) := by decide +kernel
theorem dFP_init_36 : decode prog_1_method_1_code 36 = .ok (.getfield 19, 3) := by decide +kernel
theorem dFP_init_39 : decode prog_1_method_1_code 39 = .ok (.invokespecial 25, 3) := by decide +kernel
theorem dFP_init_42 : decode prog_1_method_1_code 42 = .ok (.putfield 28, 3) := by decide +kernel
theorem dFP_init_45 : decode prog_1_method_1_code 45 = .ok (.return_, 1) := by decide +kernel
theorem dME_init_0 : decode prog_4_method_1_code 0 = .ok (.aload_n 0, 1) := by decide +kernel
theorem dME_init_1 : decode prog_4_method_1_code 1 = .ok (.invokespecial 5, 3) := by decide +kernel
theorem dME_init_4 : decode prog_4_method_1_code 4 = .ok (.aload_n 0, 1) := by decide +kernel
theorem dME_init_5 : decode prog_4_method_1_code 5 = .ok (.sipush 3072, 3) := by decide +kernel
theorem dME_init_8 : decode prog_4_method_1_code 8 = .ok (.newarray .int, 2) := by decide +kernel
theorem dME_init_10 : decode prog_4_method_1_code 10 = .ok (.putfield 11, 3) := by decide +kernel
theorem dME_init_13 : decode prog_4_method_1_code 13 = .ok (.aload_n 0, 1) := by decide +kernel
theorem dME_init_14 : decode prog_4_method_1_code 14 = .ok (.bipush 16, 2) := by decide +kernel
theorem dME_init_16 : decode prog_4_method_1_code 16 = .ok (.newarray .int, 2) := by decide +kernel
theorem dME_init_18 : decode prog_4_method_1_code 18 = .ok (.putfield 15, 3) := by decide +kernel
theorem dME_init_21 : decode prog_4_method_1_code 21 = .ok (.aload_n 0, 1) := by decide +kernel
theorem dME_init_22 : decode prog_4_method_1_code 22 = .ok (.bipush 16, 2) := by decide +kernel
theorem dME_init_24 : decode prog_4_method_1_code 24 = .ok (.newarray .boolean, 2) := by decide +kernel
theorem dME_init_26 : decode prog_4_method_1_code 26 = .ok (.putfield 18, 3) := by decide +kernel
theorem dME_init_29 : decode prog_4_method_1_code 29 = .ok (.aload_n 0, 1) := by decide +kernel
theorem dME_init_30 : decode prog_4_method_1_code 30 = .ok (.bipush 12, 2) := by decide +kernel
theorem dME_init_32 : decode prog_4_method_1_code 32 = .ok (.newarray .int, 2) := by decide +kernel
theorem dME_init_34 : decode prog_4_method_1_code 34 = .ok (.putfield 22, 3) := by decide +kernel
theorem dME_init_37 : decode prog_4_method_1_code 37 = .ok (.aload_n 0, 1) := by decide +kernel
theorem dME_init_38 : decode prog_4_method_1_code 38 = .ok (.bipush 16, 2) := by decide +kernel
theorem dME_init_40 : decode prog_4_method_1_code 40 = .ok (.newarray .int, 2) := by decide +kernel
theorem dME_init_42 : decode prog_4_method_1_code 42 = .ok (.putfield 25, 3) := by decide +kernel
theorem dME_init_45 : decode prog_4_method_1_code 45 = .ok (.aload_n 0, 1) := by decide +kernel
theorem dME_init_46 : decode prog_4_method_1_code 46 = .ok (.bipush 16, 2) := by decide +kernel
theorem dME_init_48 : decode prog_4_method_1_code 48 = .ok (.newarray .int, 2) := by decide +kernel
theorem dME_init_50 : decode prog_4_method_1_code 50 = .ok (.putfield 28, 3) := by decide +kernel
theorem dME_init_53 : decode prog_4_method_1_code 53 = .ok (.iconst 0, 1) := by decide +kernel
theorem dME_init_54 : decode prog_4_method_1_code 54 = .ok (.istore_n 1, 1) := by decide +kernel
theorem dME_init_55 : decode prog_4_method_1_code 55 = .ok (.iload_n 1, 1) := by decide +kernel
theorem dME_init_56 : decode prog_4_method_1_code 56 = .ok (.bipush 16, 2) := by decide +kernel
theorem dME_init_58 : decode prog_4_method_1_code 58 = .ok (.if_icmp .ge 26, 3) := by decide +kernel
theorem dME_init_61 : decode prog_4_method_1_code 61 = .ok (.aload_n 0, 1) := by decide +kernel
theorem dME_init_62 : decode prog_4_method_1_code 62 = .ok (.getfield 15, 3) := by decide +kernel
theorem dME_init_65 : decode prog_4_method_1_code 65 = .ok (.iload_n 1, 1) := by decide +kernel
theorem dME_init_66 : decode prog_4_method_1_code 66 = .ok (.iload_n 1, 1) := by decide +kernel
theorem dME_init_67 : decode prog_4_method_1_code 67 = .ok (.bipush 12, 2) := by decide +kernel
theorem dME_init_69 : decode prog_4_method_1_code 69 = .ok (.if_icmp .ge 7, 3) := by decide +kernel
theorem dME_init_72 : decode prog_4_method_1_code 72 = .ok (.iload_n 1, 1) := by decide +kernel
theorem dME_init_73 : decode prog_4_method_1_code 73 = .ok (.goto 4, 3) := by decide +kernel
theorem dME_init_76 : decode prog_4_method_1_code 76 = .ok (.iconst (-1), 1) := by decide +kernel
theorem dME_init_77 : decode prog_4_method_1_code 77 = .ok (.iastore, 1) := by decide +kernel
theorem dME_init_78 : decode prog_4_method_1_code 78 = .ok (.iinc 1 1, 3) := by decide +kernel
theorem dME_init_81 : decode prog_4_method_1_code 81 = .ok (.goto (-26), 3) := by decide +kernel
theorem dME_init_84 : decode prog_4_method_1_code 84 = .ok (.return_, 1) := by decide +kernel
theorem dRO_init_0 : decode prog_6_method_1_code 0 = .ok (.aload_n 0, 1) := by decide +kernel
theorem dRO_init_1 : decode prog_6_method_1_code 1 = .ok (.invokespecial 3, 3) := by decide +kernel
theorem dRO_init_4 : decode prog_6_method_1_code 4 = .ok (.aload_n 0, 1) := by decide +kernel
theorem dRO_init_5 : decode prog_6_method_1_code 5 = .ok (.bipush 6, 2) := by decide +kernel
theorem dRO_init_7 : decode prog_6_method_1_code 7 = .ok (.anewarray 11, 3) := by decide +kernel
theorem dRO_init_10 : decode prog_6_method_1_code 10 = .ok (.putfield 13, 3) := by decide +kernel
theorem dRO_init_13 : decode prog_6_method_1_code 13 = .ok (.iconst 0, 1) := by decide +kernel
theorem dRO_init_14 : decode prog_6_method_1_code 14 = .ok (.istore_n 1, 1) := by decide +kernel
theorem dRO_init_15 : decode prog_6_method_1_code 15 = .ok (.iload_n 1, 1) := by decide +kernel
theorem dRO_init_16 : decode prog_6_method_1_code 16 = .ok (.bipush 6, 2) := by decide +kernel
theorem dRO_init_18 : decode prog_6_method_1_code 18 = .ok (.if_icmp .ge 23, 3) := by decide +kernel
theorem dRO_init_21 : decode prog_6_method_1_code 21 = .ok (.aload_n 0, 1) := by decide +kernel
theorem dRO_init_22 : decode prog_6_method_1_code 22 = .ok (.getfield 13, 3) := by decide +kernel
theorem dRO_init_25 : decode prog_6_method_1_code 25 = .ok (.iload_n 1, 1) := by decide +kernel
theorem dRO_init_26 : decode prog_6_method_1_code 26 = .ok (.new 11, 3) := by decide +kernel
theorem dRO_init_29 : decode prog_6_method_1_code 29 = .ok (.dup, 1) := by decide +kernel
theorem dRO_init_30 : decode prog_6_method_1_code 30 = .ok (.iload_n 1, 1) := by decide +kernel
theorem dRO_init_31 : decode prog_6_method_1_code 31 = .ok (.invokespecial 17, 3) := by decide +kernel
theorem dRO_init_34 : decode prog_6_method_1_code 34 = .ok (.aastore, 1) := by decide +kernel
theorem dRO_init_35 : decode prog_6_method_1_code 35 = .ok (.iinc 1 1, 3) := by decide +kernel
theorem dRO_init_38 : decode prog_6_method_1_code 38 = .ok (.goto (-23), 3) := by decide +kernel
theorem dRO_init_41 : decode prog_6_method_1_code 41 = .ok (.return_, 1) := by decide +kernel
theorem dTA_init_0 : decode prog_7_method_1_code 0 = .ok (.aload_n 0, 1) := by decide +kernel
theorem dTA_init_1 : decode prog_7_method_1_code 1 = .ok (.invokespecial 3, 3) := by decide +kernel
theorem dTA_init_4 : decode prog_7_method_1_code 4 = .ok (.aload_n 0, 1) := by decide +kernel
theorem dTA_init_5 : decode prog_7_method_1_code 5 = .ok (.bipush 8, 2) := by decide +kernel
theorem dTA_init_7 : decode prog_7_method_1_code 7 = .ok (.newarray .int, 2) := by decide +kernel
theorem dTA_init_9 : decode prog_7_method_1_code 9 = .ok (.putfield 11, 3) := by decide +kernel
theorem dTA_init_12 : decode prog_7_method_1_code 12 = .ok (.aload_n 0, 1) := by decide +kernel
theorem dTA_init_13 : decode prog_7_method_1_code 13 = .ok (.iload_n 1, 1) := by decide +kernel
theorem dTA_init_14 : decode prog_7_method_1_code 14 = .ok (.putfield 15, 3) := by decide +kernel
theorem dTA_init_17 : decode prog_7_method_1_code 17 = .ok (.aload_n 0, 1) := by decide +kernel
theorem dTA_init_18 : decode prog_7_method_1_code 18 = .ok (.iconst (-1), 1) := by decide +kernel
theorem dTA_init_19 : decode prog_7_method_1_code 19 = .ok (.putfield 19, 3) := by decide +kernel
theorem dTA_init_22 : decode prog_7_method_1_code 22 = .ok (.return_, 1) := by decide +kernel
theorem dPR_init_0 : decode prog_5_method_1_code 0 = .ok (.aload_n 0, 1) := by decide +kernel
theorem dPR_init_1 : decode prog_5_method_1_code 1 = .ok (.invokespecial 3, 3) := by decide +kernel
theorem dPR_init_4 : decode prog_5_method_1_code 4 = .ok (.aload_n 0, 1) := by decide +kernel
theorem dPR_init_5 : decode prog_5_method_1_code 5 = .ok (.aload_n 1, 1) := by decide +kernel
theorem dPR_init_6 : decode prog_5_method_1_code 6 = .ok (.putfield 9, 3) := by decide +kernel
theorem dPR_init_9 : decode prog_5_method_1_code 9 = .ok (.aload_n 0, 1) := by decide +kernel
theorem dPR_init_10 : decode prog_5_method_1_code 10 = .ok (.aload_n 2, 1) := by decide +kernel
theorem dPR_init_11 : decode prog_5_method_1_code 11 = .ok (.putfield 15, 3) := by decide +kernel
theorem dPR_init_14 : decode prog_5_method_1_code 14 = .ok (.aload_n 0, 1) := by decide +kernel
theorem dPR_init_15 : decode prog_5_method_1_code 15 = .ok (.new 19, 3) := by decide +kernel
theorem dPR_init_18 : decode prog_5_method_1_code 18 = .ok (.dup, 1) := by decide +kernel
theorem dPR_init_19 : decode prog_5_method_1_code 19 = .ok (.aload_n 1, 1) := by decide +kernel
theorem dPR_init_20 : decode prog_5_method_1_code 20 = .ok (.invokespecial 21, 3) := by decide +kernel
theorem dPR_init_23 : decode prog_5_method_1_code 23 = .ok (.putfield 24, 3) := by decide +kernel
theorem dPR_init_26 : decode prog_5_method_1_code 26 = .ok (.aload_n 0, 1) := by decide +kernel
theorem dPR_init_27 : decode prog_5_method_1_code 27 = .ok (.new 28, 3) := by decide +kernel
theorem dPR_init_30 : decode prog_5_method_1_code 30 = .ok (.dup, 1) := by decide +kernel
theorem dPR_init_31 : decode prog_5_method_1_code 31 = .ok (.aload_n 1, 1) := by decide +kernel
theorem dPR_init_32 : decode prog_5_method_1_code 32 = .ok (.invokespecial 30, 3) := by decide +kernel
theorem dPR_init_35 : decode prog_5_method_1_code 35 = .ok (.putfield 31, 3) := by decide +kernel
theorem dPR_init_38 : decode prog_5_method_1_code 38 = .ok (.aload_n 0, 1) := by decide +kernel
theorem dPR_init_39 : decode prog_5_method_1_code 39 = .ok (.new 35, 3) := by decide +kernel
theorem dPR_init_42 : decode prog_5_method_1_code 42 = .ok (.dup, 1) := by decide +kernel
theorem dPR_init_43 : decode prog_5_method_1_code 43 = .ok (.aload_n 1, 1) := by decide +kernel
theorem dPR_init_44 : decode prog_5_method_1_code 44 = .ok (.aload_n 0, 1) := by decide +kernel
theorem dPR_init_45 : decode prog_5_method_1_code 45 = .ok (.getfield 24, 3) := by decide +kernel
theorem dPR_init_48 : decode prog_5_method_1_code 48 = .ok (.invokespecial 37, 3) := by decide +kernel
theorem dPR_init_51 : decode prog_5_method_1_code 51 = .ok (.putfield 40, 3) := by decide +kernel
theorem dPR_init_54 : decode prog_5_method_1_code 54 = .ok (.return_, 1) := by decide +kernel
theorem dFR_init_0 : decode prog_2_method_1_code 0 = .ok (.aload_n 0, 1) := by decide +kernel
theorem dFR_init_1 : decode prog_2_method_1_code 1 = .ok (.invokespecial 3, 3) := by decide +kernel
theorem dFR_init_4 : decode prog_2_method_1_code 4 = .ok (.aload_n 0, 1) := by decide +kernel
theorem dFR_init_5 : decode prog_2_method_1_code 5 = .ok (.aload_n 1, 1) := by decide +kernel
theorem dFR_init_6 : decode prog_2_method_1_code 6 = .ok (.putfield 9, 3) := by decide +kernel
theorem dFR_init_9 : decode prog_2_method_1_code 9 = .ok (.return_, 1) := by decide +kernel
theorem dWS_init_0 : decode prog_8_method_1_code 0 = .ok (.aload_n 0, 1) := by decide +kernel
theorem dWS_init_1 : decode prog_8_method_1_code 1 = .ok (.invokespecial 5, 3) := by decide +kernel
theorem dWS_init_4 : decode prog_8_method_1_code 4 = .ok (.aload_n 0, 1) := by decide +kernel
theorem dWS_init_5 : decode prog_8_method_1_code 5 = .ok (.bipush 9, 2) := by decide +kernel
theorem dWS_init_7 : decode prog_8_method_1_code 7 = .ok (.newarray .int, 2) := by decide +kernel
theorem dWS_init_9 : decode prog_8_method_1_code 9 = .ok (.putfield 13, 3) := by decide +kernel
theorem dWS_init_12 : decode prog_8_method_1_code 12 = .ok (.aload_n 0, 1) := by decide +kernel
theorem dWS_init_13 : decode prog_8_method_1_code 13 = .ok (.aload_n 1, 1) := by decide +kernel
theorem dWS_init_14 : decode prog_8_method_1_code 14 = .ok (.putfield 17, 3) := by decide +kernel
theorem dWS_init_17 : decode prog_8_method_1_code 17 = .ok (.return_, 1) := by decide +kernel
theorem dIN_init_0 : decode prog_3_method_1_code 0 = .ok (.aload_n 0, 1) := by decide +kernel
theorem dIN_init_1 : decode prog_3_method_1_code 1 = .ok (.invokespecial 3, 3) := by decide +kernel
theorem dIN_init_4 : decode prog_3_method_1_code 4 = .ok (.aload_n 0, 1) := by decide +kernel
theorem dIN_init_5 : decode prog_3_method_1_code 5 = .ok (.aload_n 1, 1) := by decide +kernel
theorem dIN_init_6 : decode prog_3_method_1_code 6 = .ok (.putfield 9, 3) := by decide +kernel
theorem dIN_init_9 : decode prog_3_method_1_code 9 = .ok (.aload_n 0, 1) := by decide +kernel
theorem dIN_init_10 : decode prog_3_method_1_code 10 = .ok (.aload_n 2, 1) := by decide +kernel
theorem dIN_init_11 : decode prog_3_method_1_code 11 = .ok (.putfield 15, 3) := by decide +kernel
theorem dIN_init_14 : decode prog_3_method_1_code 14 = .ok (.return_, 1) := by decide +kernel
theorem dMO_init_0 : decode prog_10_method_1_code 0 = .ok (.aload_n 0, 1) := by decide +kernel
theorem dMO_init_1 : decode prog_10_method_1_code 1 = .ok (.invokespecial 1, 3) := by decide +kernel
theorem dMO_init_4 : decode prog_10_method_1_code 4 = .ok (.aload_n 0, 1) := by decide +kernel
theorem dMO_init_5 : decode prog_10_method_1_code 5 = .ok (.bipush 16, 2) := by decide +kernel
theorem dMO_init_7 : decode prog_10_method_1_code 7 = .ok (.newarray .int, 2) := by decide +kernel
theorem dMO_init_9 : decode prog_10_method_1_code 9 = .ok (.putfield 7, 3) := by decide +kernel
theorem dMO_init_12 : decode prog_10_method_1_code 12 = .ok (.aload_n 0, 1) := by decide +kernel
theorem dMO_init_13 : decode prog_10_method_1_code 13 = .ok (.bipush 12, 2) := by decide +kernel
theorem dMO_init_15 : decode prog_10_method_1_code 15 = .ok (.newarray .int, 2) := by decide +kernel
theorem dMO_init_17 : decode prog_10_method_1_code 17 = .ok (.putfield 13, 3) := by decide +kernel
theorem dMO_init_20 : decode prog_10_method_1_code 20 = .ok (.aload_n 0, 1) := by decide +kernel
theorem dMO_init_21 : decode prog_10_method_1_code 21 = .ok (.sipush 3072, 3) := by decide +kernel
theorem dMO_init_24 : decode prog_10_method_1_code 24 = .ok (.newarray .int, 2) := by decide +kernel
theorem dMO_init_26 : decode prog_10_method_1_code 26 = .ok (.putfield 16, 3) := by decide +kernel
theorem dMO_init_29 : decode prog_10_method_1_code 29 = .ok (.aload_n 0, 1) := by decide +kernel
theorem dMO_init_30 : decode prog_10_method_1_code 30 = .ok (.bipush 16, 2) := by decide +kernel
theorem dMO_init_32 : decode prog_10_method_1_code 32 = .ok (.newarray .boolean, 2) := by decide +kernel
theorem dMO_init_34 : decode prog_10_method_1_code 34 = .ok (.putfield 19, 3) := by decide +kernel
theorem dMO_init_37 : decode prog_10_method_1_code 37 = .ok (.aload_n 0, 1) := by decide +kernel
theorem dMO_init_38 : decode prog_10_method_1_code 38 = .ok (.bipush 6, 2) := by decide +kernel
theorem dMO_init_40 : decode prog_10_method_1_code 40 = .ok (.newarray .int, 2) := by decide +kernel
theorem dMO_init_42 : decode prog_10_method_1_code 42 = .ok (.putfield 23, 3) := by decide +kernel
theorem dMO_init_45 : decode prog_10_method_1_code 45 = .ok (.aload_n 0, 1) := by decide +kernel
theorem dMO_init_46 : decode prog_10_method_1_code 46 = .ok (.bipush 6, 2) := by decide +kernel
theorem dMO_init_48 : decode prog_10_method_1_code 48 = .ok (.newarray .int, 2) := by decide +kernel
theorem dMO_init_50 : decode prog_10_method_1_code 50 = .ok (.putfield 26, 3) := by decide +kernel
theorem dMO_init_53 : decode prog_10_method_1_code 53 = .ok (.aload_n 0, 1) := by decide +kernel
theorem dMO_init_54 : decode prog_10_method_1_code 54 = .ok (.bipush 6, 2) := by decide +kernel
theorem dMO_init_56 : decode prog_10_method_1_code 56 = .ok (.newarray .int, 2) := by decide +kernel
theorem dMO_init_58 : decode prog_10_method_1_code 58 = .ok (.putfield 29, 3) := by decide +kernel
theorem dMO_init_61 : decode prog_10_method_1_code 61 = .ok (.aload_n 0, 1) := by decide +kernel
theorem dMO_init_62 : decode prog_10_method_1_code 62 = .ok (.bipush 6, 2) := by decide +kernel
theorem dMO_init_64 : decode prog_10_method_1_code 64 = .ok (.newarray .int, 2) := by decide +kernel
theorem dMO_init_66 : decode prog_10_method_1_code 66 = .ok (.putfield 32, 3) := by decide +kernel
theorem dMO_init_69 : decode prog_10_method_1_code 69 = .ok (.aload_n 0, 1) := by decide +kernel
theorem dMO_init_70 : decode prog_10_method_1_code 70 = .ok (.bipush 48, 2) := by decide +kernel
theorem dMO_init_72 : decode prog_10_method_1_code 72 = .ok (.newarray .int, 2) := by decide +kernel
theorem dMO_init_74 : decode prog_10_method_1_code 74 = .ok (.putfield 35, 3) := by decide +kernel
theorem dMO_init_77 : decode prog_10_method_1_code 77 = .ok (.aload_n 0, 1) := by decide +kernel
theorem dMO_init_78 : decode prog_10_method_1_code 78 = .ok (.bipush 6, 2) := by decide +kernel
theorem dMO_init_80 : decode prog_10_method_1_code 80 = .ok (.newarray .int, 2) := by decide +kernel
theorem dMO_init_82 : decode prog_10_method_1_code 82 = .ok (.putfield 38, 3) := by decide +kernel
theorem dMO_init_85 : decode prog_10_method_1_code 85 = .ok (.aload_n 0, 1) := by decide +kernel
theorem dMO_init_86 : decode prog_10_method_1_code 86 = .ok (.bipush 6, 2) := by decide +kernel
theorem dMO_init_88 : decode prog_10_method_1_code 88 = .ok (.newarray .int, 2) := by decide +kernel
theorem dMO_init_90 : decode prog_10_method_1_code 90 = .ok (.putfield 41, 3) := by decide +kernel
theorem dMO_init_93 : decode prog_10_method_1_code 93 = .ok (.aload_n 0, 1) := by decide +kernel
theorem dMO_init_94 : decode prog_10_method_1_code 94 = .ok (.bipush 6, 2) := by decide +kernel
theorem dMO_init_96 : decode prog_10_method_1_code 96 = .ok (.newarray .int, 2) := by decide +kernel
theorem dMO_init_98 : decode prog_10_method_1_code 98 = .ok (.putfield 44, 3) := by decide +kernel
theorem dMO_init_101 : decode prog_10_method_1_code 101 = .ok (.aload_n 0, 1) := by decide +kernel
theorem dMO_init_102 : decode prog_10_method_1_code 102 = .ok (.bipush 6, 2) := by decide +kernel
theorem dMO_init_104 : decode prog_10_method_1_code 104 = .ok (.newarray .long, 2) := by decide +kernel
theorem dMO_init_106 : decode prog_10_method_1_code 106 = .ok (.putfield 47, 3) := by decide +kernel
theorem dMO_init_109 : decode prog_10_method_1_code 109 = .ok (.aload_n 0, 1) := by decide +kernel
theorem dMO_init_110 : decode prog_10_method_1_code 110 = .ok (.bipush 40, 2) := by decide +kernel
theorem dMO_init_112 : decode prog_10_method_1_code 112 = .ok (.newarray .int, 2) := by decide +kernel
theorem dMO_init_114 : decode prog_10_method_1_code 114 = .ok (.putfield 51, 3) := by decide +kernel
theorem dMO_init_117 : decode prog_10_method_1_code 117 = .ok (.aload_n 0, 1) := by decide +kernel
theorem dMO_init_118 : decode prog_10_method_1_code 118 = .ok (.bipush 40, 2) := by decide +kernel
theorem dMO_init_120 : decode prog_10_method_1_code 120 = .ok (.newarray .int, 2) := by decide +kernel
theorem dMO_init_122 : decode prog_10_method_1_code 122 = .ok (.putfield 54, 3) := by decide +kernel
theorem dMO_init_125 : decode prog_10_method_1_code 125 = .ok (.aload_n 0, 1) := by decide +kernel
theorem dMO_init_126 : decode prog_10_method_1_code 126 = .ok (.bipush 48, 2) := by decide +kernel
theorem dMO_init_128 : decode prog_10_method_1_code 128 = .ok (.newarray .int, 2) := by decide +kernel
theorem dMO_init_130 : decode prog_10_method_1_code 130 = .ok (.putfield 57, 3) := by decide +kernel
theorem dMO_init_133 : decode prog_10_method_1_code 133 = .ok (.aload_n 0, 1) := by decide +kernel
theorem dMO_init_134 : decode prog_10_method_1_code 134 = .ok (.bipush 6, 2) := by decide +kernel
theorem dMO_init_136 : decode prog_10_method_1_code 136 = .ok (.newarray .int, 2) := by decide +kernel
theorem dMO_init_138 : decode prog_10_method_1_code 138 = .ok (.putfield 60, 3) := by decide +kernel
theorem dMO_init_141 : decode prog_10_method_1_code 141 = .ok (.iconst 0, 1) := by decide +kernel
theorem dMO_init_142 : decode prog_10_method_1_code 142 = .ok (.istore_n 1, 1) := by decide +kernel
theorem dMO_init_143 : decode prog_10_method_1_code 143 = .ok (.iload_n 1, 1) := by decide +kernel
theorem dMO_init_144 : decode prog_10_method_1_code 144 = .ok (.bipush 16, 2) := by decide +kernel
theorem dMO_init_146 : decode prog_10_method_1_code 146 = .ok (.if_icmp .ge 26, 3) := by decide +kernel
theorem dMO_init_149 : decode prog_10_method_1_code 149 = .ok (.aload_n 0, 1) := by decide +kernel
theorem dMO_init_150 : decode prog_10_method_1_code 150 = .ok (.getfield 7, 3) := by decide +kernel
theorem dMO_init_153 : decode prog_10_method_1_code 153 = .ok (.iload_n 1, 1) := by decide +kernel
theorem dMO_init_154 : decode prog_10_method_1_code 154 = .ok (.iload_n 1, 1) := by decide +kernel
theorem dMO_init_155 : decode prog_10_method_1_code 155 = .ok (.bipush 12, 2) := by decide +kernel
theorem dMO_init_157 : decode prog_10_method_1_code 157 = .ok (.if_icmp .ge 7, 3) := by decide +kernel
theorem dMO_init_160 : decode prog_10_method_1_code 160 = .ok (.iload_n 1, 1) := by decide +kernel
theorem dMO_init_161 : decode prog_10_method_1_code 161 = .ok (.goto 4, 3) := by decide +kernel
theorem dMO_init_164 : decode prog_10_method_1_code 164 = .ok (.iconst (-1), 1) := by decide +kernel
theorem dMO_init_165 : decode prog_10_method_1_code 165 = .ok (.iastore, 1) := by decide +kernel
theorem dMO_init_166 : decode prog_10_method_1_code 166 = .ok (.iinc 1 1, 3) := by decide +kernel
theorem dMO_init_169 : decode prog_10_method_1_code 169 = .ok (.goto (-26), 3) := by decide +kernel
theorem dMO_init_172 : decode prog_10_method_1_code 172 = .ok (.return_, 1) := by decide +kernel
