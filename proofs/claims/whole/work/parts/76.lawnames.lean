theorem zm_LA_7 : Cond.methodLink "FrameProcessorLaw" 7 yFP_map ∈ zt_T := zt_of2 83 (by decide +kernel) rfl
theorem zk_LA_13 : Cond.classLink "FrameProcessorLaw" 13 (zx_c 0) ∈ zt_T := zt_of2 82 (by decide +kernel) rfl
theorem zd_LA_map : Cond.codeWith yLA_map method_3_code 4 (some .int) [(0, 6, 9, 13)] ∈ zt_T := zt_of2 81 (by decide +kernel) rfl
theorem zs_LA_map : Cond.static yLA_map ∈ zt_T := zt_of2 80 (by decide +kernel) rfl
theorem zn_LA : Cond.initialized "FrameProcessorLaw" ∈ zt_T := zt_of1 0 (by decide +kernel) rfl
theorem zm_LA_15 : Cond.methodLink "FrameProcessorLaw" 15 yFP_protect ∈ zt_T := zt_of2 160 (by decide +kernel) rfl
theorem zd_LA_protect : Cond.codeWith yLA_protect method_4_code 4 (some .int) [(0, 6, 9, 13)] ∈ zt_T := zt_of2 159 (by decide +kernel) rfl
theorem zs_LA_protect : Cond.static yLA_protect ∈ zt_T := zt_of2 158 (by decide +kernel) rfl
theorem zm_LA_19 : Cond.methodLink "FrameProcessorLaw" 19 yFP_noted ∈ zt_T := zt_of2 171 (by decide +kernel) rfl
theorem zd_LA_noted : Cond.codeWith yLA_noted method_5_code 4 (some .int) [(0, 9, 12, 13)] ∈ zt_T := zt_of2 170 (by decide +kernel) rfl
theorem zs_LA_noted : Cond.static yLA_noted ∈ zt_T := zt_of2 169 (by decide +kernel) rfl
theorem zm_LA_23 : Cond.methodLink "FrameProcessorLaw" 23 yFP_poke ∈ zt_T := zt_of2 183 (by decide +kernel) rfl
theorem zk_LA_26 : Cond.classLink "FrameProcessorLaw" 26 (zx_c 1) ∈ zt_T := zt_of2 182 (by decide +kernel) rfl
theorem zd_LA_poke : Cond.codeWith yLA_poke method_6_code 4 (some .int) [(0, 6, 9, 13), (0, 6, 12, 26)] ∈ zt_T := zt_of2 181 (by decide +kernel) rfl
theorem zs_LA_poke : Cond.static yLA_poke ∈ zt_T := zt_of2 180 (by decide +kernel) rfl
theorem zm_LA_28 : Cond.methodLink "FrameProcessorLaw" 28 yFP_peek ∈ zt_T := zt_of2 217 (by decide +kernel) rfl
theorem zd_LA_peek : Cond.codeWith yLA_peek method_7_code 4 (some .int) [(0, 9, 12, 13), (0, 9, 15, 26)] ∈ zt_T := zt_of2 216 (by decide +kernel) rfl
theorem zs_LA_peek : Cond.static yLA_peek ∈ zt_T := zt_of2 215 (by decide +kernel) rfl
theorem zm_LA_31 : Cond.methodLink "FrameProcessorLaw" 31 yFP_start ∈ zt_T := zt_of2 224 (by decide +kernel) rfl
theorem zd_LA_start : Cond.codeWith yLA_start method_8_code 5 (some .int) [(0, 10, 13, 26)] ∈ zt_T := zt_of2 223 (by decide +kernel) rfl
theorem zs_LA_start : Cond.static yLA_start ∈ zt_T := zt_of2 222 (by decide +kernel) rfl
theorem zm_LA_35 : Cond.methodLink "FrameProcessorLaw" 35 yFP_run ∈ zt_T := zt_of3 69 (by decide +kernel) rfl
theorem zk_LA_38 : Cond.classLink "FrameProcessorLaw" 38 (zx_c 2) ∈ zt_T := zt_of3 68 (by decide +kernel) rfl
theorem zd_LA_run : Cond.codeWith yLA_run method_9_code 4 (some .int) [(0, 9, 12, 38)] ∈ zt_T := zt_of3 67 (by decide +kernel) rfl
theorem zs_LA_run : Cond.static yLA_run ∈ zt_T := zt_of3 66 (by decide +kernel) rfl
theorem zm_LA_40 : Cond.methodLink "FrameProcessorLaw" 40 yFP_resume ∈ zt_T := zt_of4 4 (by decide +kernel) rfl
theorem zd_LA_resume : Cond.codeWith yLA_resume method_10_code 3 (some .int) [(0, 5, 8, 13), (0, 5, 11, 26)] ∈ zt_T := zt_of4 3 (by decide +kernel) rfl
theorem zs_LA_resume : Cond.static yLA_resume ∈ zt_T := zt_of4 2 (by decide +kernel) rfl
theorem zm_LA_44 : Cond.methodLink "FrameProcessorLaw" 44 yFP_kill ∈ zt_T := zt_of4 12 (by decide +kernel) rfl
theorem zd_LA_kill : Cond.codeWith yLA_kill method_11_code 3 (some .int) [(0, 5, 8, 13), (0, 5, 11, 26)] ∈ zt_T := zt_of4 11 (by decide +kernel) rfl
theorem zs_LA_kill : Cond.static yLA_kill ∈ zt_T := zt_of4 10 (by decide +kernel) rfl
theorem zm_LA_47 : Cond.methodLink "FrameProcessorLaw" 47 yFP_interrupt ∈ zt_T := zt_of4 20 (by decide +kernel) rfl
theorem zd_LA_interrupt : Cond.codeWith yLA_interrupt method_12_code 4 (some .int) [(0, 9, 12, 13)] ∈ zt_T := zt_of4 19 (by decide +kernel) rfl
theorem zs_LA_interrupt : Cond.static yLA_interrupt ∈ zt_T := zt_of4 18 (by decide +kernel) rfl
theorem zm_LA_50 : Cond.methodLink "FrameProcessorLaw" 50 yFP_tick ∈ zt_T := zt_of4 34 (by decide +kernel) rfl
theorem zd_LA_tick : Cond.codeWith yLA_tick method_13_code 4 (some .int) [(0, 9, 12, 38)] ∈ zt_T := zt_of4 33 (by decide +kernel) rfl
theorem zs_LA_tick : Cond.static yLA_tick ∈ zt_T := zt_of4 32 (by decide +kernel) rfl
theorem LA_map_kW : zz_kW zt_T yLA_map method_3_code 4 (some .int) [(0, 6, 9, 13)] 3 := ⟨zt_good, zd_LA_map, zs_LA_map, zn_LA, by decide +kernel⟩
theorem LA_protect_kW : zz_kW zt_T yLA_protect method_4_code 4 (some .int) [(0, 6, 9, 13)] 3 := ⟨zt_good, zd_LA_protect, zs_LA_protect, zn_LA, by decide +kernel⟩
theorem LA_noted_kW : zz_kW zt_T yLA_noted method_5_code 4 (some .int) [(0, 9, 12, 13)] 3 := ⟨zt_good, zd_LA_noted, zs_LA_noted, zn_LA, by decide +kernel⟩
theorem LA_poke_kW : zz_kW zt_T yLA_poke method_6_code 4 (some .int) [(0, 6, 9, 13), (0, 6, 12, 26)] 3 := ⟨zt_good, zd_LA_poke, zs_LA_poke, zn_LA, by decide +kernel⟩
theorem LA_peek_kW : zz_kW zt_T yLA_peek method_7_code 4 (some .int) [(0, 9, 12, 13), (0, 9, 15, 26)] 3 := ⟨zt_good, zd_LA_peek, zs_LA_peek, zn_LA, by decide +kernel⟩
theorem LA_start_kW : zz_kW zt_T yLA_start method_8_code 5 (some .int) [(0, 10, 13, 26)] 4 := ⟨zt_good, zd_LA_start, zs_LA_start, zn_LA, by decide +kernel⟩
theorem LA_run_kW : zz_kW zt_T yLA_run method_9_code 4 (some .int) [(0, 9, 12, 38)] 3 := ⟨zt_good, zd_LA_run, zs_LA_run, zn_LA, by decide +kernel⟩
theorem LA_resume_kW : zz_kW zt_T yLA_resume method_10_code 3 (some .int) [(0, 5, 8, 13), (0, 5, 11, 26)] 2 := ⟨zt_good, zd_LA_resume, zs_LA_resume, zn_LA, by decide +kernel⟩
theorem LA_kill_kW : zz_kW zt_T yLA_kill method_11_code 3 (some .int) [(0, 5, 8, 13), (0, 5, 11, 26)] 2 := ⟨zt_good, zd_LA_kill, zs_LA_kill, zn_LA, by decide +kernel⟩
theorem LA_interrupt_kW : zz_kW zt_T yLA_interrupt method_12_code 4 (some .int) [(0, 9, 12, 13)] 3 := ⟨zt_good, zd_LA_interrupt, zs_LA_interrupt, zn_LA, by decide +kernel⟩
theorem LA_tick_kW : zz_kW zt_T yLA_tick method_13_code 4 (some .int) [(0, 9, 12, 38)] 3 := ⟨zt_good, zd_LA_tick, zs_LA_tick, zn_LA, by decide +kernel⟩
theorem FP_map_k : zz_kV zt_T yFP_map prog_1_method_2_code 3 none "FrameProcessor" 2 := ⟨zt_good, zd_FP_map, zo_FP_map, ze_FP_map, zn_FP, by decide +kernel⟩
theorem FP_protect_k : zz_kV zt_T yFP_protect prog_1_method_3_code 3 none "FrameProcessor" 2 := ⟨zt_good, zd_FP_protect, zo_FP_protect, ze_FP_protect, zn_FP, by decide +kernel⟩
theorem FP_noted_k : zz_kV zt_T yFP_noted prog_1_method_4_code 2 (some .int) "FrameProcessor" 1 := ⟨zt_good, zd_FP_noted, zo_FP_noted, ze_FP_noted, zn_FP, by decide +kernel⟩
theorem FP_poke_k : zz_kV zt_T yFP_poke prog_1_method_5_code 3 none "FrameProcessor" 2 := ⟨zt_good, zd_FP_poke, zo_FP_poke, ze_FP_poke, zn_FP, by decide +kernel⟩
theorem FP_peek_k : zz_kV zt_T yFP_peek prog_1_method_6_code 2 (some .int) "FrameProcessor" 1 := ⟨zt_good, zd_FP_peek, zo_FP_peek, ze_FP_peek, zn_FP, by decide +kernel⟩
theorem FP_start_k : zz_kV zt_T yFP_start prog_1_method_7_code 4 (some .int) "FrameProcessor" 2 := ⟨zt_good, zd_FP_start, zo_FP_start, ze_FP_start, zn_FP, by decide +kernel⟩
theorem FP_run_k : zz_kV zt_T yFP_run prog_1_method_8_code 4 (some .int) "FrameProcessor" 1 := ⟨zt_good, zd_FP_run, zo_FP_run, ze_FP_run, zn_FP, by decide +kernel⟩
theorem FP_resume_k : zz_kV zt_T yFP_resume prog_1_method_9_code 3 none "FrameProcessor" 1 := ⟨zt_good, zd_FP_resume, zo_FP_resume, ze_FP_resume, zn_FP, by decide +kernel⟩
theorem FP_kill_k : zz_kV zt_T yFP_kill prog_1_method_10_code 3 none "FrameProcessor" 1 := ⟨zt_good, zd_FP_kill, zo_FP_kill, ze_FP_kill, zn_FP, by decide +kernel⟩
theorem FP_interrupt_k : zz_kV zt_T yFP_interrupt prog_1_method_11_code 3 (some .int) "FrameProcessor" 1 := ⟨zt_good, zd_FP_interrupt, zo_FP_interrupt, ze_FP_interrupt, zn_FP, by decide +kernel⟩
theorem FP_tick_k : zz_kV zt_T yFP_tick prog_1_method_12_code 2 (some .int) "FrameProcessor" 1 := ⟨zt_good, zd_FP_tick, zo_FP_tick, ze_FP_tick, zn_FP, by decide +kernel⟩
theorem dLA_map_0 : decode method_3_code 0 = .ok (.aload_n 0, 1) := by decide +kernel
theorem dLA_map_1 : decode method_3_code 1 = .ok (.iload_n 1, 1) := by decide +kernel
theorem dLA_map_2 : decode method_3_code 2 = .ok (.iload_n 2, 1) := by decide +kernel
theorem dLA_map_3 : decode method_3_code 3 = .ok (.invokevirtual 7, 3) := by decide +kernel
theorem dLA_map_6 : decode method_3_code 6 = .ok (.goto 6, 3) := by decide +kernel
theorem dLA_map_9 : decode method_3_code 9 = .ok (.astore_n 3, 1) := by decide +kernel
theorem dLA_map_10 : decode method_3_code 10 = .ok (.iconst 1, 1) := by decide +kernel
theorem dLA_map_11 : decode method_3_code 11 = .ok (.ireturn, 1) := by decide +kernel
theorem dLA_map_12 : decode method_3_code 12 = .ok (.iconst 0, 1) := by decide +kernel
theorem dLA_map_13 : decode method_3_code 13 = .ok (.ireturn, 1) := by decide +kernel
theorem dLA_protect_0 : decode method_4_code 0 = .ok (.aload_n 0, 1) := by decide +kernel
theorem dLA_protect_1 : decode method_4_code 1 = .ok (.iload_n 1, 1) := by decide +kernel
theorem dLA_protect_2 : decode method_4_code 2 = .ok (.iload_n 2, 1) := by decide +kernel
theorem dLA_protect_3 : decode method_4_code 3 = .ok (.invokevirtual 15, 3) := by decide +kernel
theorem dLA_protect_6 : decode method_4_code 6 = .ok (.goto 6, 3) := by decide +kernel
theorem dLA_protect_9 : decode method_4_code 9 = .ok (.astore_n 3, 1) := by decide +kernel
theorem dLA_protect_10 : decode method_4_code 10 = .ok (.iconst 1, 1) := by decide +kernel
theorem dLA_protect_11 : decode method_4_code 11 = .ok (.ireturn, 1) := by decide +kernel
theorem dLA_protect_12 : decode method_4_code 12 = .ok (.iconst 0, 1) := by decide +kernel
theorem dLA_protect_13 : decode method_4_code 13 = .ok (.ireturn, 1) := by decide +kernel
theorem dLA_noted_0 : decode method_5_code 0 = .ok (.aload_n 2, 1) := by decide +kernel
theorem dLA_noted_1 : decode method_5_code 1 = .ok (.iconst 0, 1) := by decide +kernel
theorem dLA_noted_2 : decode method_5_code 2 = .ok (.aload_n 0, 1) := by decide +kernel
theorem dLA_noted_3 : decode method_5_code 3 = .ok (.iload_n 1, 1) := by decide +kernel
theorem dLA_noted_4 : decode method_5_code 4 = .ok (.invokevirtual 19, 3) := by decide +kernel
theorem dLA_noted_7 : decode method_5_code 7 = .ok (.i2l, 1) := by decide +kernel
theorem dLA_noted_8 : decode method_5_code 8 = .ok (.lastore, 1) := by decide +kernel
theorem dLA_noted_9 : decode method_5_code 9 = .ok (.goto 6, 3) := by decide +kernel
theorem dLA_noted_12 : decode method_5_code 12 = .ok (.astore_n 3, 1) := by decide +kernel
theorem dLA_noted_13 : decode method_5_code 13 = .ok (.iconst 1, 1) := by decide +kernel
theorem dLA_noted_14 : decode method_5_code 14 = .ok (.ireturn, 1) := by decide +kernel
theorem dLA_noted_15 : decode method_5_code 15 = .ok (.iconst 0, 1) := by decide +kernel
theorem dLA_noted_16 : decode method_5_code 16 = .ok (.ireturn, 1) := by decide +kernel
theorem dLA_poke_0 : decode method_6_code 0 = .ok (.aload_n 0, 1) := by decide +kernel
theorem dLA_poke_1 : decode method_6_code 1 = .ok (.iload_n 1, 1) := by decide +kernel
theorem dLA_poke_2 : decode method_6_code 2 = .ok (.iload_n 2, 1) := by decide +kernel
theorem dLA_poke_3 : decode method_6_code 3 = .ok (.invokevirtual 23, 3) := by decide +kernel
theorem dLA_poke_6 : decode method_6_code 6 = .ok (.goto 9, 3) := by decide +kernel
theorem dLA_poke_9 : decode method_6_code 9 = .ok (.astore_n 3, 1) := by decide +kernel
theorem dLA_poke_10 : decode method_6_code 10 = .ok (.iconst 1, 1) := by decide +kernel
theorem dLA_poke_11 : decode method_6_code 11 = .ok (.ireturn, 1) := by decide +kernel
theorem dLA_poke_12 : decode method_6_code 12 = .ok (.astore_n 3, 1) := by decide +kernel
theorem dLA_poke_13 : decode method_6_code 13 = .ok (.iconst 2, 1) := by decide +kernel
theorem dLA_poke_14 : decode method_6_code 14 = .ok (.ireturn, 1) := by decide +kernel
theorem dLA_poke_15 : decode method_6_code 15 = .ok (.iconst 0, 1) := by decide +kernel
theorem dLA_poke_16 : decode method_6_code 16 = .ok (.ireturn, 1) := by decide +kernel
theorem dLA_peek_0 : decode method_7_code 0 = .ok (.aload_n 2, 1) := by decide +kernel
theorem dLA_peek_1 : decode method_7_code 1 = .ok (.iconst 0, 1) := by decide +kernel
theorem dLA_peek_2 : decode method_7_code 2 = .ok (.aload_n 0, 1) := by decide +kernel
theorem dLA_peek_3 : decode method_7_code 3 = .ok (.iload_n 1, 1) := by decide +kernel
theorem dLA_peek_4 : decode method_7_code 4 = .ok (.invokevirtual 28, 3) := by decide +kernel
theorem dLA_peek_7 : decode method_7_code 7 = .ok (.i2l, 1) := by decide +kernel
theorem dLA_peek_8 : decode method_7_code 8 = .ok (.lastore, 1) := by decide +kernel
theorem dLA_peek_9 : decode method_7_code 9 = .ok (.goto 9, 3) := by decide +kernel
theorem dLA_peek_12 : decode method_7_code 12 = .ok (.astore_n 3, 1) := by decide +kernel
theorem dLA_peek_13 : decode method_7_code 13 = .ok (.iconst 1, 1) := by decide +kernel
theorem dLA_peek_14 : decode method_7_code 14 = .ok (.ireturn, 1) := by decide +kernel
theorem dLA_peek_15 : decode method_7_code 15 = .ok (.astore_n 3, 1) := by decide +kernel
theorem dLA_peek_16 : decode method_7_code 16 = .ok (.iconst 2, 1) := by decide +kernel
theorem dLA_peek_17 : decode method_7_code 17 = .ok (.ireturn, 1) := by decide +kernel
theorem dLA_peek_18 : decode method_7_code 18 = .ok (.iconst 0, 1) := by decide +kernel
theorem dLA_peek_19 : decode method_7_code 19 = .ok (.ireturn, 1) := by decide +kernel
theorem dLA_start_0 : decode method_8_code 0 = .ok (.aload_n 3, 1) := by decide +kernel
theorem dLA_start_1 : decode method_8_code 1 = .ok (.iconst 0, 1) := by decide +kernel
theorem dLA_start_2 : decode method_8_code 2 = .ok (.aload_n 0, 1) := by decide +kernel
theorem dLA_start_3 : decode method_8_code 3 = .ok (.iload_n 1, 1) := by decide +kernel
theorem dLA_start_4 : decode method_8_code 4 = .ok (.iload_n 2, 1) := by decide +kernel
theorem dLA_start_5 : decode method_8_code 5 = .ok (.invokevirtual 31, 3) := by decide +kernel
theorem dLA_start_8 : decode method_8_code 8 = .ok (.i2l, 1) := by decide +kernel
theorem dLA_start_9 : decode method_8_code 9 = .ok (.lastore, 1) := by decide +kernel
theorem dLA_start_10 : decode method_8_code 10 = .ok (.goto 7, 3) := by decide +kernel
theorem dLA_start_13 : decode method_8_code 13 = .ok (.astore 4, 2) := by decide +kernel
theorem dLA_start_15 : decode method_8_code 15 = .ok (.iconst 1, 1) := by decide +kernel
theorem dLA_start_16 : decode method_8_code 16 = .ok (.ireturn, 1) := by decide +kernel
theorem dLA_start_17 : decode method_8_code 17 = .ok (.iconst 0, 1) := by decide +kernel
theorem dLA_start_18 : decode method_8_code 18 = .ok (.ireturn, 1) := by decide +kernel
theorem dLA_run_0 : decode method_9_code 0 = .ok (.aload_n 2, 1) := by decide +kernel
theorem dLA_run_1 : decode method_9_code 1 = .ok (.iconst 0, 1) := by decide +kernel
theorem dLA_run_2 : decode method_9_code 2 = .ok (.aload_n 0, 1) := by decide +kernel
theorem dLA_run_3 : decode method_9_code 3 = .ok (.iload_n 1, 1) := by decide +kernel
theorem dLA_run_4 : decode method_9_code 4 = .ok (.invokevirtual 35, 3) := by decide +kernel
theorem dLA_run_7 : decode method_9_code 7 = .ok (.i2l, 1) := by decide +kernel
theorem dLA_run_8 : decode method_9_code 8 = .ok (.lastore, 1) := by decide +kernel
theorem dLA_run_9 : decode method_9_code 9 = .ok (.goto 6, 3) := by decide +kernel
theorem dLA_run_12 : decode method_9_code 12 = .ok (.astore_n 3, 1) := by decide +kernel
theorem dLA_run_13 : decode method_9_code 13 = .ok (.iconst 1, 1) := by decide +kernel
theorem dLA_run_14 : decode method_9_code 14 = .ok (.ireturn, 1) := by decide +kernel
theorem dLA_run_15 : decode method_9_code 15 = .ok (.iconst 0, 1) := by decide +kernel
theorem dLA_run_16 : decode method_9_code 16 = .ok (.ireturn, 1) := by decide +kernel
theorem dLA_resume_0 : decode method_10_code 0 = .ok (.aload_n 0, 1) := by decide +kernel
theorem dLA_resume_1 : decode method_10_code 1 = .ok (.iload_n 1, 1) := by decide +kernel
theorem dLA_resume_2 : decode method_10_code 2 = .ok (.invokevirtual 40, 3) := by decide +kernel
theorem dLA_resume_5 : decode method_10_code 5 = .ok (.goto 9, 3) := by decide +kernel
theorem dLA_resume_8 : decode method_10_code 8 = .ok (.astore_n 2, 1) := by decide +kernel
theorem dLA_resume_9 : decode method_10_code 9 = .ok (.iconst 1, 1) := by decide +kernel
theorem dLA_resume_10 : decode method_10_code 10 = .ok (.ireturn, 1) := by decide +kernel
theorem dLA_resume_11 : decode method_10_code 11 = .ok (.astore_n 2, 1) := by decide +kernel
theorem dLA_resume_12 : decode method_10_code 12 = .ok (.iconst 2, 1) := by decide +kernel
theorem dLA_resume_13 : decode method_10_code 13 = .ok (.ireturn, 1) := by decide +kernel
theorem dLA_resume_14 : decode method_10_code 14 = .ok (.iconst 0, 1) := by decide +kernel
theorem dLA_resume_15 : decode method_10_code 15 = .ok (.ireturn, 1) := by decide +kernel
theorem dLA_kill_0 : decode method_11_code 0 = .ok (.aload_n 0, 1) := by decide +kernel
theorem dLA_kill_1 : decode method_11_code 1 = .ok (.iload_n 1, 1) := by decide +kernel
theorem dLA_kill_2 : decode method_11_code 2 = .ok (.invokevirtual 44, 3) := by decide +kernel
theorem dLA_kill_5 : decode method_11_code 5 = .ok (.goto 9, 3) := by decide +kernel
theorem dLA_kill_8 : decode method_11_code 8 = .ok (.astore_n 2, 1) := by decide +kernel
theorem dLA_kill_9 : decode method_11_code 9 = .ok (.iconst 1, 1) := by decide +kernel
theorem dLA_kill_10 : decode method_11_code 10 = .ok (.ireturn, 1) := by decide +kernel
theorem dLA_kill_11 : decode method_11_code 11 = .ok (.astore_n 2, 1) := by decide +kernel
theorem dLA_kill_12 : decode method_11_code 12 = .ok (.iconst 2, 1) := by decide +kernel
theorem dLA_kill_13 : decode method_11_code 13 = .ok (.ireturn, 1) := by decide +kernel
theorem dLA_kill_14 : decode method_11_code 14 = .ok (.iconst 0, 1) := by decide +kernel
theorem dLA_kill_15 : decode method_11_code 15 = .ok (.ireturn, 1) := by decide +kernel
theorem dLA_interrupt_0 : decode method_12_code 0 = .ok (.aload_n 2, 1) := by decide +kernel
theorem dLA_interrupt_1 : decode method_12_code 1 = .ok (.iconst 0, 1) := by decide +kernel
theorem dLA_interrupt_2 : decode method_12_code 2 = .ok (.aload_n 0, 1) := by decide +kernel
theorem dLA_interrupt_3 : decode method_12_code 3 = .ok (.iload_n 1, 1) := by decide +kernel
theorem dLA_interrupt_4 : decode method_12_code 4 = .ok (.invokevirtual 47, 3) := by decide +kernel
theorem dLA_interrupt_7 : decode method_12_code 7 = .ok (.i2l, 1) := by decide +kernel
theorem dLA_interrupt_8 : decode method_12_code 8 = .ok (.lastore, 1) := by decide +kernel
theorem dLA_interrupt_9 : decode method_12_code 9 = .ok (.goto 6, 3) := by decide +kernel
theorem dLA_interrupt_12 : decode method_12_code 12 = .ok (.astore_n 3, 1) := by decide +kernel
theorem dLA_interrupt_13 : decode method_12_code 13 = .ok (.iconst 1, 1) := by decide +kernel
theorem dLA_interrupt_14 : decode method_12_code 14 = .ok (.ireturn, 1) := by decide +kernel
theorem dLA_interrupt_15 : decode method_12_code 15 = .ok (.iconst 0, 1) := by decide +kernel
theorem dLA_interrupt_16 : decode method_12_code 16 = .ok (.ireturn, 1) := by decide +kernel
theorem dLA_tick_0 : decode method_13_code 0 = .ok (.aload_n 2, 1) := by decide +kernel
theorem dLA_tick_1 : decode method_13_code 1 = .ok (.iconst 0, 1) := by decide +kernel
theorem dLA_tick_2 : decode method_13_code 2 = .ok (.aload_n 0, 1) := by decide +kernel
theorem dLA_tick_3 : decode method_13_code 3 = .ok (.iload_n 1, 1) := by decide +kernel
theorem dLA_tick_4 : decode method_13_code 4 = .ok (.invokevirtual 50, 3) := by decide +kernel
theorem dLA_tick_7 : decode method_13_code 7 = .ok (.i2l, 1) := by decide +kernel
theorem dLA_tick_8 : decode method_13_code 8 = .ok (.lastore, 1) := by decide +kernel
theorem dLA_tick_9 : decode method_13_code 9 = .ok (.goto 6, 3) := by decide +kernel
theorem dLA_tick_12 : decode method_13_code 12 = .ok (.astore_n 3, 1) := by decide +kernel
theorem dLA_tick_13 : decode method_13_code 13 = .ok (.iconst 1, 1) := by decide +kernel
theorem dLA_tick_14 : decode method_13_code 14 = .ok (.ireturn, 1) := by decide +kernel
theorem dLA_tick_15 : decode method_13_code 15 = .ok (.iconst 0, 1) := by decide +kernel
theorem dLA_tick_16 : decode method_13_code 16 = .ok (.ireturn, 1) := by decide +kernel
