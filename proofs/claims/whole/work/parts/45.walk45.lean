def PR_transfer_195 (x4 : Int32) (y0 : Int32) (st : zz_S) : Option (Unit × zz_S) := (zz_gd (zz_bo y0) (zz_nm (zz_sp st 5 y0) fun s_1 => (if (zz_sg s_1 5) = 0 then (zz_bd (PR_goTo_f x4 (0 : Int32) s_1) fun _ s_2 => (some ((), s_2))) else (some ((), s_1)))))
def PR_transfer_f (st : zz_S) : Option (Unit × zz_S) := (zz_nm (zz_sg st 18) fun v_3 => (zz_nm (zz_sg st 17) fun v_4 => (if v_4 = (25 : Int32) then (zz_bd (PR_saveNext_f st) fun _ s_6 => (zz_bd (FR_procedure_f (zz_sg s_6 14) (v_3 &&& (15 : Int32)) s_6) fun r_8 s_7 => (zz_oc (zz_qg s_7 0) none fun t_9 => zz_gd (Nat.blt t_9 6) (zz_bd (PR_goTo_f r_8 (zz_ag s_7 9 t_9) s_7) fun _ s_10 => (some ((), s_10)))))) else (if v_4 = (26 : Int32) then (zz_bd (ME_read_f (((zz_sg st 15) - (1 : Int32)) - v_3) st) fun r_13 s_12 => (zz_bd (PR_saveNext_f s_12) fun _ s_14 => (zz_oc (zz_qg s_14 0) none fun t_15 => zz_gd (Nat.blt t_15 6) (zz_bd (PR_goTo_f r_13 (zz_ag s_14 9 t_15) s_14) fun _ s_16 => (some ((), s_16)))))) else (if v_4 = (27 : Int32) then (zz_gd (zz_bo (0 : Int32)) (zz_nm (zz_sp st 4 (0 : Int32)) fun s_18 => (zz_bd (ME_read_f ((zz_sg s_18 3) + (0 : Int32)) s_18) fun r_20 s_19 => (zz_bd (FR_giveBack_f (zz_sg s_19 3) s_19) fun _ s_21 => (if r_20 = 0 then (PR_transfer_195 r_20 (1 : Int32) s_21) else (PR_transfer_195 r_20 (0 : Int32) s_21)))))) else (if v_4 = (28 : Int32) then (zz_bd (WS_pop_f st) fun r_24 s_23 => (zz_bd (PR_saveNext_f s_23) fun _ s_25 => (zz_oc (zz_qg s_25 0) none fun t_26 => zz_gd (Nat.blt t_26 6) (zz_bd (PR_goTo_f r_24 (zz_ag s_25 9 t_26) s_25) fun _ s_27 => (some ((), s_27)))))) else (if v_4 = (29 : Int32) then (zz_bd (FR_take_f (v_3 &&& (7 : Int32)) st) fun r_30 s_29 => (zz_bd (WS_push_f r_30 s_29) fun _ s_31 => (some ((), s_31)))) else (if v_4 = (30 : Int32) then (zz_bd (WS_pop_f st) fun r_34 s_33 => (zz_bd (FR_giveBack_f r_34 s_33) fun _ s_35 => (some ((), s_35)))) else (if v_4 = (31 : Int32) then (zz_bd (WS_pop_f st) fun r_38 s_37 => (zz_bd (WS_pop_f s_37) fun r_40 s_39 => (zz_bd (PR_prepareChild_f r_38 r_40 s_39) fun _ s_41 => (some ((), s_41))))) else (some ((), st)))))))))))
set_option maxRecDepth 100000 in
set_option maxHeartbeats 4000000 in
theorem PR_transfer_195_w {l : Launch} {D : va_G} {ad : Nat → Nat} {cA : Nat → ClassId} {tb : Nat} {E : zz_E} (hV : zz_ok (zc_V l D ad cA tb)) (h : zz_X (zc_V l D ad cA tb) E "FrameProcessor$Processor" prog_5_method_15_code 6 zt_T 4 98 none) (x4 : Int32) (y0 : Int32) (st : zz_S) : zz_Z (zc_V l D ad cA tb) E 6 0 0 (zz_q (zc_V l D ad cA tb) E zz_jv) (PR_transfer_195 x4 y0 st) 195 [(0, .ref (ad 3)), (4, .int x4)] [.int y0, .ref (ad 3)] st := by
  unfold PR_transfer_195
  refine zc_p_PR_ends h zi_PR zf_PR_144 dPR_transfer_195 (fun s_1 => ?_)
  refine zz_aload_n h dPR_transfer_198 rfl ?_
  refine zc_g_PR_ends h zi_PR zf_PR_144 dPR_transfer_199 ?_
  refine zz_if_ne h 278 dPR_transfer_202 rfl ?_ ?_
  · refine zz_aload_n h dPR_transfer_205 rfl ?_
    refine zz_iload h dPR_transfer_206 rfl ?_
    refine zz_iconst (v := 0) h dPR_transfer_208 zz_li_0 ?_
    refine zz_callV2v h 3 rfl rfl (PR_goTo_c hV _ _ _) PR_goTo_k zm_PR_234 rfl rfl ⟨Nat.le_of_ble_eq_true rfl, Nat.le_of_ble_eq_true rfl⟩ (Nat.le_of_ble_eq_true rfl) dPR_transfer_209 (fun _ s_2 => ?_)
    refine zz_goto h 278 dPR_transfer_212 rfl ?_
    exact zz_vret h dPR_transfer_278
  · exact zz_vret h dPR_transfer_278
set_option maxRecDepth 100000 in
set_option maxHeartbeats 4000000 in
theorem PR_transfer_w {l : Launch} {D : va_G} {ad : Nat → Nat} {cA : Nat → ClassId} {tb : Nat} {E : zz_E} (hV : zz_ok (zc_V l D ad cA tb)) (h : zz_X (zc_V l D ad cA tb) E "FrameProcessor$Processor" prog_5_method_15_code 6 zt_T 4 98 none) (st : zz_S) : zz_Z (zc_V l D ad cA tb) E 6 0 0 (zz_q (zc_V l D ad cA tb) E zz_jv) (PR_transfer_f  st) 0 [(0, .ref (ad 3))] [] st := by
  unfold PR_transfer_f
  refine zz_aload_n h dPR_transfer_0 rfl ?_
  refine zc_g_PR_instruction h zi_PR zf_PR_40 dPR_transfer_1 ?_
  refine zc_g_IN_operand h zi_IN zf_PR_190 dPR_transfer_4 ?_
  refine zz_topi (fun v_3 => ?_)
  refine zz_istore_n h dPR_transfer_7 (Nat.le_of_ble_eq_true rfl) ?_
  refine zz_aload_n h dPR_transfer_8 rfl ?_
  refine zc_g_PR_instruction h zi_PR zf_PR_40 dPR_transfer_9 ?_
  refine zc_g_IN_code h zi_IN zf_PR_92 dPR_transfer_12 ?_
  refine zz_topi (fun v_4 => ?_)
  refine zz_ite (fun c_5 => ?_) (fun c_5 => ?_)
  · refine zz_table (off := 41) h 56 dPR_transfer_15 c_5 (by decide) (by decide) (by decide) rfl ?_
    refine zz_aload_n h dPR_transfer_56 rfl ?_
    refine zz_callV0v h 3 rfl rfl (PR_saveNext_c hV _) PR_saveNext_k zm_PR_156 rfl rfl ⟨Nat.le_of_ble_eq_true rfl, Nat.le_of_ble_eq_true rfl⟩ (Nat.le_of_ble_eq_true rfl) dPR_transfer_57 (fun _ s_6 => ?_)
    refine zz_aload_n h dPR_transfer_60 rfl ?_
    refine zz_aload_n h dPR_transfer_61 rfl ?_
    refine zc_g_PR_instruction h zi_PR zf_PR_40 dPR_transfer_62 ?_
    refine zc_g_IN_g h zi_IN zf_PR_228 dPR_transfer_65 ?_
    refine zz_iload_n h dPR_transfer_68 rfl ?_
    refine zz_bipush (v := 15) h dPR_transfer_69 zz_lb_15 ?_
    refine zz_iand h dPR_transfer_71 ?_
    refine zz_callS2i h (FR_procedure_c hV _ _ _) FR_procedure_k zm_PR_231 rfl rfl ⟨Nat.le_of_ble_eq_true rfl, Nat.le_of_ble_eq_true rfl⟩ (Nat.le_of_ble_eq_true rfl) dPR_transfer_72 (fun r_8 s_7 => ?_)
    refine zz_aload_n h dPR_transfer_75 rfl ?_
    refine zc_g_PR_task h zi_PR zf_PR_114 dPR_transfer_76 ?_
    refine zz_nn (fun t_9 ht_9 => ?_)
    refine zc_g_TA_frame ht_9 h zi_TA zf_PR_140 dPR_transfer_79 ?_
    refine zz_callV2v h 3 rfl rfl (PR_goTo_c hV _ _ _) PR_goTo_k zm_PR_234 rfl rfl ⟨Nat.le_of_ble_eq_true rfl, Nat.le_of_ble_eq_true rfl⟩ (Nat.le_of_ble_eq_true rfl) dPR_transfer_82 (fun _ s_10 => ?_)
    refine zz_goto h 278 dPR_transfer_85 rfl ?_
    exact zz_vret h dPR_transfer_278
  refine zz_ite (fun c_11 => ?_) (fun c_11 => ?_)
  · refine zz_table (off := 73) h 88 dPR_transfer_15 c_11 (by decide) (by decide) (by decide) rfl ?_
    refine zz_aload_n h dPR_transfer_88 rfl ?_
    refine zc_g_PR_memory h zi_PR zf_PR_9 dPR_transfer_89 ?_
    refine zz_aload_n h dPR_transfer_92 rfl ?_
    refine zc_g_PR_instruction h zi_PR zf_PR_40 dPR_transfer_93 ?_
    refine zc_g_IN_globalFrame h zi_IN zf_PR_203 dPR_transfer_96 ?_
    refine zz_iconst (v := 1) h dPR_transfer_99 zz_li_1 ?_
    refine zz_isub h dPR_transfer_100 ?_
    refine zz_iload_n h dPR_transfer_101 rfl ?_
    refine zz_isub h dPR_transfer_102 ?_
    refine zz_callV1i h 1 rfl rfl (ME_read_c hV _ _) ME_read_k zm_PR_196 rfl rfl ⟨Nat.le_of_ble_eq_true rfl, Nat.le_of_ble_eq_true rfl⟩ (Nat.le_of_ble_eq_true rfl) dPR_transfer_103 (fun r_13 s_12 => ?_)
    refine zz_istore_n h dPR_transfer_106 (Nat.le_of_ble_eq_true rfl) ?_
    refine zz_aload_n h dPR_transfer_107 rfl ?_
    refine zz_callV0v h 3 rfl rfl (PR_saveNext_c hV _) PR_saveNext_k zm_PR_156 rfl rfl ⟨Nat.le_of_ble_eq_true rfl, Nat.le_of_ble_eq_true rfl⟩ (Nat.le_of_ble_eq_true rfl) dPR_transfer_108 (fun _ s_14 => ?_)
    refine zz_aload_n h dPR_transfer_111 rfl ?_
    refine zz_iload_n h dPR_transfer_112 rfl ?_
    refine zz_aload_n h dPR_transfer_113 rfl ?_
    refine zc_g_PR_task h zi_PR zf_PR_114 dPR_transfer_114 ?_
    refine zz_nn (fun t_15 ht_15 => ?_)
    refine zc_g_TA_frame ht_15 h zi_TA zf_PR_140 dPR_transfer_117 ?_
    refine zz_callV2v h 3 rfl rfl (PR_goTo_c hV _ _ _) PR_goTo_k zm_PR_234 rfl rfl ⟨Nat.le_of_ble_eq_true rfl, Nat.le_of_ble_eq_true rfl⟩ (Nat.le_of_ble_eq_true rfl) dPR_transfer_120 (fun _ s_16 => ?_)
    refine zz_goto h 278 dPR_transfer_123 rfl ?_
    exact zz_vret h dPR_transfer_278
  refine zz_ite (fun c_17 => ?_) (fun c_17 => ?_)
  · refine zz_table (off := 138) h 153 dPR_transfer_15 c_17 (by decide) (by decide) (by decide) rfl ?_
    refine zz_aload_n h dPR_transfer_153 rfl ?_
    refine zz_iconst (v := 0) h dPR_transfer_154 zz_li_0 ?_
    refine zc_p_PR_savesNext h zi_PR zf_PR_141 dPR_transfer_155 (fun s_18 => ?_)
    refine zz_aload_n h dPR_transfer_158 rfl ?_
    refine zc_g_PR_memory h zi_PR zf_PR_9 dPR_transfer_159 ?_
    refine zz_aload_n h dPR_transfer_162 rfl ?_
    refine zc_g_PR_frame h zi_PR zf_PR_85 dPR_transfer_163 ?_
    refine zz_iconst (v := 0) h dPR_transfer_166 zz_li_0 ?_
    refine zz_iadd h dPR_transfer_167 ?_
    refine zz_callV1i h 1 rfl rfl (ME_read_c hV _ _) ME_read_k zm_PR_196 rfl rfl ⟨Nat.le_of_ble_eq_true rfl, Nat.le_of_ble_eq_true rfl⟩ (Nat.le_of_ble_eq_true rfl) dPR_transfer_168 (fun r_20 s_19 => ?_)
    refine zz_istore h dPR_transfer_171 (Nat.le_of_ble_eq_true rfl) ?_
    refine zz_aload_n h dPR_transfer_173 rfl ?_
    refine zc_g_PR_frames h zi_PR zf_PR_24 dPR_transfer_174 ?_
    refine zz_aload_n h dPR_transfer_177 rfl ?_
    refine zc_g_PR_frame h zi_PR zf_PR_85 dPR_transfer_178 ?_
    refine zz_callV1v h 4 rfl rfl (FR_giveBack_c hV _ _) FR_giveBack_k zm_PR_237 rfl rfl ⟨Nat.le_of_ble_eq_true rfl, Nat.le_of_ble_eq_true rfl⟩ (Nat.le_of_ble_eq_true rfl) dPR_transfer_181 (fun _ s_21 => ?_)
    refine zz_aload_n h dPR_transfer_184 rfl ?_
    refine zz_iload h dPR_transfer_185 rfl ?_
    refine zz_if_ne h 194 dPR_transfer_187 rfl ?_ ?_
    · refine zz_iconst (v := 1) h dPR_transfer_190 zz_li_1 ?_
      refine zz_goto h 195 dPR_transfer_191 rfl ?_
      exact zz_sub (PR_transfer_195_w hV h _ _ _) rfl
    · refine zz_iconst (v := 0) h dPR_transfer_194 zz_li_0 ?_
      exact zz_sub (PR_transfer_195_w hV h _ _ _) rfl
  refine zz_ite (fun c_22 => ?_) (fun c_22 => ?_)
  · refine zz_table (off := 111) h 126 dPR_transfer_15 c_22 (by decide) (by decide) (by decide) rfl ?_
    refine zz_aload_n h dPR_transfer_126 rfl ?_
    refine zc_g_PR_stack h zi_PR zf_PR_31 dPR_transfer_127 ?_
    refine zz_callV0i h 5 rfl rfl (WS_pop_c hV _) WS_pop_k zm_PR_200 rfl rfl ⟨Nat.le_of_ble_eq_true rfl, Nat.le_of_ble_eq_true rfl⟩ (Nat.le_of_ble_eq_true rfl) dPR_transfer_130 (fun r_24 s_23 => ?_)
    refine zz_istore_n h dPR_transfer_133 (Nat.le_of_ble_eq_true rfl) ?_
    refine zz_aload_n h dPR_transfer_134 rfl ?_
    refine zz_callV0v h 3 rfl rfl (PR_saveNext_c hV _) PR_saveNext_k zm_PR_156 rfl rfl ⟨Nat.le_of_ble_eq_true rfl, Nat.le_of_ble_eq_true rfl⟩ (Nat.le_of_ble_eq_true rfl) dPR_transfer_135 (fun _ s_25 => ?_)
    refine zz_aload_n h dPR_transfer_138 rfl ?_
    refine zz_iload_n h dPR_transfer_139 rfl ?_
    refine zz_aload_n h dPR_transfer_140 rfl ?_
    refine zc_g_PR_task h zi_PR zf_PR_114 dPR_transfer_141 ?_
    refine zz_nn (fun t_26 ht_26 => ?_)
    refine zc_g_TA_frame ht_26 h zi_TA zf_PR_140 dPR_transfer_144 ?_
    refine zz_callV2v h 3 rfl rfl (PR_goTo_c hV _ _ _) PR_goTo_k zm_PR_234 rfl rfl ⟨Nat.le_of_ble_eq_true rfl, Nat.le_of_ble_eq_true rfl⟩ (Nat.le_of_ble_eq_true rfl) dPR_transfer_147 (fun _ s_27 => ?_)
    refine zz_goto h 278 dPR_transfer_150 rfl ?_
    exact zz_vret h dPR_transfer_278
  refine zz_ite (fun c_28 => ?_) (fun c_28 => ?_)
  · refine zz_table (off := 200) h 215 dPR_transfer_15 c_28 (by decide) (by decide) (by decide) rfl ?_
    refine zz_aload_n h dPR_transfer_215 rfl ?_
    refine zc_g_PR_stack h zi_PR zf_PR_31 dPR_transfer_216 ?_
    refine zz_aload_n h dPR_transfer_219 rfl ?_
    refine zc_g_PR_frames h zi_PR zf_PR_24 dPR_transfer_220 ?_
    refine zz_iload_n h dPR_transfer_223 rfl ?_
    refine zz_bipush (v := 7) h dPR_transfer_224 zz_lb_7 ?_
    refine zz_iand h dPR_transfer_226 ?_
    refine zz_callV1i h 4 rfl rfl (FR_take_c hV _ _) FR_take_k zm_PR_240 rfl rfl ⟨Nat.le_of_ble_eq_true rfl, Nat.le_of_ble_eq_true rfl⟩ (Nat.le_of_ble_eq_true rfl) dPR_transfer_227 (fun r_30 s_29 => ?_)
    refine zz_callV1v h 5 rfl rfl (WS_push_c hV _ _) WS_push_k zm_PR_193 rfl rfl ⟨Nat.le_of_ble_eq_true rfl, Nat.le_of_ble_eq_true rfl⟩ (Nat.le_of_ble_eq_true rfl) dPR_transfer_230 (fun _ s_31 => ?_)
    refine zz_goto h 278 dPR_transfer_233 rfl ?_
    exact zz_vret h dPR_transfer_278
  refine zz_ite (fun c_32 => ?_) (fun c_32 => ?_)
  · refine zz_table (off := 221) h 236 dPR_transfer_15 c_32 (by decide) (by decide) (by decide) rfl ?_
    refine zz_aload_n h dPR_transfer_236 rfl ?_
    refine zc_g_PR_frames h zi_PR zf_PR_24 dPR_transfer_237 ?_
    refine zz_aload_n h dPR_transfer_240 rfl ?_
    refine zc_g_PR_stack h zi_PR zf_PR_31 dPR_transfer_241 ?_
    refine zz_callV0i h 5 rfl rfl (WS_pop_c hV _) WS_pop_k zm_PR_200 rfl rfl ⟨Nat.le_of_ble_eq_true rfl, Nat.le_of_ble_eq_true rfl⟩ (Nat.le_of_ble_eq_true rfl) dPR_transfer_244 (fun r_34 s_33 => ?_)
    refine zz_callV1v h 4 rfl rfl (FR_giveBack_c hV _ _) FR_giveBack_k zm_PR_237 rfl rfl ⟨Nat.le_of_ble_eq_true rfl, Nat.le_of_ble_eq_true rfl⟩ (Nat.le_of_ble_eq_true rfl) dPR_transfer_247 (fun _ s_35 => ?_)
    refine zz_goto h 278 dPR_transfer_250 rfl ?_
    exact zz_vret h dPR_transfer_278
  refine zz_ite (fun c_36 => ?_) (fun c_36 => ?_)
  · refine zz_table (off := 238) h 253 dPR_transfer_15 c_36 (by decide) (by decide) (by decide) rfl ?_
    refine zz_aload_n h dPR_transfer_253 rfl ?_
    refine zc_g_PR_stack h zi_PR zf_PR_31 dPR_transfer_254 ?_
    refine zz_callV0i h 5 rfl rfl (WS_pop_c hV _) WS_pop_k zm_PR_200 rfl rfl ⟨Nat.le_of_ble_eq_true rfl, Nat.le_of_ble_eq_true rfl⟩ (Nat.le_of_ble_eq_true rfl) dPR_transfer_257 (fun r_38 s_37 => ?_)
    refine zz_istore h dPR_transfer_260 (Nat.le_of_ble_eq_true rfl) ?_
    refine zz_aload_n h dPR_transfer_262 rfl ?_
    refine zz_iload h dPR_transfer_263 rfl ?_
    refine zz_aload_n h dPR_transfer_265 rfl ?_
    refine zc_g_PR_stack h zi_PR zf_PR_31 dPR_transfer_266 ?_
    refine zz_callV0i h 5 rfl rfl (WS_pop_c hV _) WS_pop_k zm_PR_200 rfl rfl ⟨Nat.le_of_ble_eq_true rfl, Nat.le_of_ble_eq_true rfl⟩ (Nat.le_of_ble_eq_true rfl) dPR_transfer_269 (fun r_40 s_39 => ?_)
    refine zz_callV2v h 3 rfl rfl (PR_prepareChild_c hV _ _ _) PR_prepareChild_k zm_PR_49 rfl rfl ⟨Nat.le_of_ble_eq_true rfl, Nat.le_of_ble_eq_true rfl⟩ (Nat.le_of_ble_eq_true rfl) dPR_transfer_272 (fun _ s_41 => ?_)
    refine zz_goto h 278 dPR_transfer_275 rfl ?_
    exact zz_vret h dPR_transfer_278
  refine zz_tableD h 278 dPR_transfer_15 (by have z0 := lv_neT (a := 25) c_5 (by decide); have z1 := lv_neT (a := 26) c_11 (by decide); have z2 := lv_neT (a := 27) c_17 (by decide); have z3 := lv_neT (a := 28) c_22 (by decide); have z4 := lv_neT (a := 29) c_28 (by decide); have z5 := lv_neT (a := 30) c_32 (by decide); have z6 := lv_neT (a := 31) c_36 (by decide); omega) rfl ?_
  exact zz_vret h dPR_transfer_278
theorem PR_transfer_c {l : Launch} {D : va_G} {ad : Nat → Nat} {cA : Nat → ClassId} {tb : Nat} (hV : zz_ok (zc_V l D ad cA tb)) (st : zz_S) : zz_C (zc_V l D ad cA tb) yPR_transfer (Cond.code yPR_transfer prog_5_method_15_code 6 none :: zt_T) { frames := 4, cells := 0, slots := 0, locals := 98 } zz_jv [.ref (ad 3)] st (PR_transfer_f  st) := zz_met hV (by decide +kernel) rfl (Nat.le_of_ble_eq_true rfl) rfl (fun E h => PR_transfer_w hV h  st)
def ME_addressOf_f (x0 : Int32) (st : zz_S) : Option (Int32 × zz_S) := (some ((x0 &&& (4095 : Int32)), st))
set_option maxRecDepth 100000 in
set_option maxHeartbeats 4000000 in
theorem ME_addressOf_w {l : Launch} {D : va_G} {ad : Nat → Nat} {cA : Nat → ClassId} {tb : Nat} {E : zz_E} (hV : zz_ok (zc_V l D ad cA tb)) (h : zz_X (zc_V l D ad cA tb) E "FrameProcessor$Memory" prog_4_method_5_code 1 zt_T 0 0 (some .int)) (x0 : Int32) (st : zz_S) : zz_Z (zc_V l D ad cA tb) E 1 0 0 (zz_q (zc_V l D ad cA tb) E zz_ji) (ME_addressOf_f x0 st) 0 [(0, .int x0)] [] st := by
  unfold ME_addressOf_f
  refine zz_iload_n h dME_addressOf_0 rfl ?_
  refine zz_sipush (v := 4095) h dME_addressOf_1 zz_ls_4095 ?_
  refine zz_iand h dME_addressOf_4 ?_
  exact zz_iret h dME_addressOf_5
theorem ME_addressOf_c {l : Launch} {D : va_G} {ad : Nat → Nat} {cA : Nat → ClassId} {tb : Nat} (hV : zz_ok (zc_V l D ad cA tb)) (x0 : Int32) (st : zz_S) : zz_C (zc_V l D ad cA tb) yME_addressOf (Cond.code yME_addressOf prog_4_method_5_code 1 (some .int) :: zt_T) { frames := 0, cells := 0, slots := 0, locals := 0 } zz_ji [.int x0] st (ME_addressOf_f x0 st) := zz_met hV (by decide +kernel) rfl (Nat.le_of_ble_eq_true rfl) rfl (fun E h => ME_addressOf_w hV h x0 st)
def PR_enterMonitor_f (x1 : Int32) (st : zz_S) : Option (Unit × zz_S) := (zz_bd (ME_addressOf_f x1 st) fun r_2 s_1 => (zz_nm (zz_sp s_1 8 r_2) fun s_3 => (zz_bd (ME_read_f (zz_sg s_3 8) s_3) fun r_5 s_4 => (if r_5 = 0 then (zz_bd (ME_write_f (zz_sg s_4 8) (1 : Int32) s_4) fun _ s_6 => (some ((), s_6))) else (zz_gd (zz_bo (1 : Int32)) (zz_nm (zz_sp s_4 6 (1 : Int32)) fun s_7 => (some ((), s_7))))))))
set_option maxRecDepth 100000 in
set_option maxHeartbeats 4000000 in
theorem PR_enterMonitor_w {l : Launch} {D : va_G} {ad : Nat → Nat} {cA : Nat → ClassId} {tb : Nat} {E : zz_E} (hV : zz_ok (zc_V l D ad cA tb)) (h : zz_X (zc_V l D ad cA tb) E "FrameProcessor$Processor" prog_5_method_19_code 2 zt_T 1 25 none) (x1 : Int32) (st : zz_S) : zz_Z (zc_V l D ad cA tb) E 2 0 0 (zz_q (zc_V l D ad cA tb) E zz_jv) (PR_enterMonitor_f x1 st) 0 [(0, .ref (ad 3)), (1, .int x1)] [] st := by
  unfold PR_enterMonitor_f
  refine zz_aload_n h dPR_enterMonitor_0 rfl ?_
  refine zz_iload_n h dPR_enterMonitor_1 rfl ?_
  refine zz_callS1i h (ME_addressOf_c hV _ _) ME_addressOf_k zm_PR_263 rfl rfl ⟨Nat.le_of_ble_eq_true rfl, Nat.le_of_ble_eq_true rfl⟩ (Nat.le_of_ble_eq_true rfl) dPR_enterMonitor_2 (fun r_2 s_1 => ?_)
  refine zc_p_PR_monitor h zi_PR zf_PR_117 dPR_enterMonitor_5 (fun s_3 => ?_)
  refine zz_aload_n h dPR_enterMonitor_8 rfl ?_
  refine zc_g_PR_memory h zi_PR zf_PR_9 dPR_enterMonitor_9 ?_
  refine zz_aload_n h dPR_enterMonitor_12 rfl ?_
  refine zc_g_PR_monitor h zi_PR zf_PR_117 dPR_enterMonitor_13 ?_
  refine zz_callV1i h 1 rfl rfl (ME_read_c hV _ _) ME_read_k zm_PR_196 rfl rfl ⟨Nat.le_of_ble_eq_true rfl, Nat.le_of_ble_eq_true rfl⟩ (Nat.le_of_ble_eq_true rfl) dPR_enterMonitor_16 (fun r_5 s_4 => ?_)
  refine zz_if_ne h 37 dPR_enterMonitor_19 rfl ?_ ?_
  · refine zz_aload_n h dPR_enterMonitor_22 rfl ?_
    refine zc_g_PR_memory h zi_PR zf_PR_9 dPR_enterMonitor_23 ?_
    refine zz_aload_n h dPR_enterMonitor_26 rfl ?_
    refine zc_g_PR_monitor h zi_PR zf_PR_117 dPR_enterMonitor_27 ?_
    refine zz_iconst (v := 1) h dPR_enterMonitor_30 zz_li_1 ?_
    refine zz_callV2v h 1 rfl rfl (ME_write_c hV _ _ _) ME_write_k zm_PR_162 rfl rfl ⟨Nat.le_of_ble_eq_true rfl, Nat.le_of_ble_eq_true rfl⟩ (Nat.le_of_ble_eq_true rfl) dPR_enterMonitor_31 (fun _ s_6 => ?_)
    refine zz_goto h 42 dPR_enterMonitor_34 rfl ?_
    exact zz_vret h dPR_enterMonitor_42
  · refine zz_aload_n h dPR_enterMonitor_37 rfl ?_
    refine zz_iconst (v := 1) h dPR_enterMonitor_38 zz_li_1 ?_
    refine zc_p_PR_blocks h zi_PR zf_PR_110 dPR_enterMonitor_39 (fun s_7 => ?_)
    exact zz_vret h dPR_enterMonitor_42
theorem PR_enterMonitor_c {l : Launch} {D : va_G} {ad : Nat → Nat} {cA : Nat → ClassId} {tb : Nat} (hV : zz_ok (zc_V l D ad cA tb)) (x1 : Int32) (st : zz_S) : zz_C (zc_V l D ad cA tb) yPR_enterMonitor (Cond.code yPR_enterMonitor prog_5_method_19_code 2 none :: zt_T) { frames := 1, cells := 0, slots := 0, locals := 25 } zz_jv [.ref (ad 3), .int x1] st (PR_enterMonitor_f x1 st) := zz_met hV (by decide +kernel) rfl (Nat.le_of_ble_eq_true rfl) rfl (fun E h => PR_enterMonitor_w hV h x1 st)
def PR_exitMonitor_f (x1 : Int32) (st : zz_S) : Option (Unit × zz_S) := (zz_bd (ME_addressOf_f x1 st) fun r_2 s_1 => (zz_nm (zz_sp s_1 8 r_2) fun s_3 => (zz_bd (ME_write_f (zz_sg s_3 8) (0 : Int32) s_3) fun _ s_4 => (some ((), s_4)))))
set_option maxRecDepth 100000 in
set_option maxHeartbeats 4000000 in
theorem PR_exitMonitor_w {l : Launch} {D : va_G} {ad : Nat → Nat} {cA : Nat → ClassId} {tb : Nat} {E : zz_E} (hV : zz_ok (zc_V l D ad cA tb)) (h : zz_X (zc_V l D ad cA tb) E "FrameProcessor$Processor" prog_5_method_20_code 2 zt_T 1 25 none) (x1 : Int32) (st : zz_S) : zz_Z (zc_V l D ad cA tb) E 2 0 0 (zz_q (zc_V l D ad cA tb) E zz_jv) (PR_exitMonitor_f x1 st) 0 [(0, .ref (ad 3)), (1, .int x1)] [] st := by
  unfold PR_exitMonitor_f
  refine zz_aload_n h dPR_exitMonitor_0 rfl ?_
  refine zz_iload_n h dPR_exitMonitor_1 rfl ?_
  refine zz_callS1i h (ME_addressOf_c hV _ _) ME_addressOf_k zm_PR_263 rfl rfl ⟨Nat.le_of_ble_eq_true rfl, Nat.le_of_ble_eq_true rfl⟩ (Nat.le_of_ble_eq_true rfl) dPR_exitMonitor_2 (fun r_2 s_1 => ?_)
  refine zc_p_PR_monitor h zi_PR zf_PR_117 dPR_exitMonitor_5 (fun s_3 => ?_)
  refine zz_aload_n h dPR_exitMonitor_8 rfl ?_
  refine zc_g_PR_memory h zi_PR zf_PR_9 dPR_exitMonitor_9 ?_
  refine zz_aload_n h dPR_exitMonitor_12 rfl ?_
  refine zc_g_PR_monitor h zi_PR zf_PR_117 dPR_exitMonitor_13 ?_
  refine zz_iconst (v := 0) h dPR_exitMonitor_16 zz_li_0 ?_
  refine zz_callV2v h 1 rfl rfl (ME_write_c hV _ _ _) ME_write_k zm_PR_162 rfl rfl ⟨Nat.le_of_ble_eq_true rfl, Nat.le_of_ble_eq_true rfl⟩ (Nat.le_of_ble_eq_true rfl) dPR_exitMonitor_17 (fun _ s_4 => ?_)
  exact zz_vret h dPR_exitMonitor_20
theorem PR_exitMonitor_c {l : Launch} {D : va_G} {ad : Nat → Nat} {cA : Nat → ClassId} {tb : Nat} (hV : zz_ok (zc_V l D ad cA tb)) (x1 : Int32) (st : zz_S) : zz_C (zc_V l D ad cA tb) yPR_exitMonitor (Cond.code yPR_exitMonitor prog_5_method_20_code 2 none :: zt_T) { frames := 1, cells := 0, slots := 0, locals := 25 } zz_jv [.ref (ad 3), .int x1] st (PR_exitMonitor_f x1 st) := zz_met hV (by decide +kernel) rfl (Nat.le_of_ble_eq_true rfl) rfl (fun E h => PR_exitMonitor_w hV h x1 st)
def PR_awaitCondition_24 (x1 : Int32) (y0 : Int32) (st : zz_S) : Option (Unit × zz_S) := (zz_gd (zz_bo y0) (zz_nm (zz_sp st 7 y0) fun s_1 => (if (zz_sg s_1 7) = 0 then (zz_bd (ME_write_f (zz_sg s_1 9) (x1 - (1 : Int32)) s_1) fun _ s_2 => (some ((), s_2))) else (some ((), s_1)))))
def PR_awaitCondition_f (st : zz_S) : Option (Unit × zz_S) := (zz_bd (ME_read_f (zz_sg st 9) st) fun r_4 s_3 => (if (r_4 &&& (1 : Int32)) = 0 then (PR_awaitCondition_24 r_4 (1 : Int32) s_3) else (PR_awaitCondition_24 r_4 (0 : Int32) s_3)))
set_option maxRecDepth 100000 in
set_option maxHeartbeats 4000000 in
theorem PR_awaitCondition_24_w {l : Launch} {D : va_G} {ad : Nat → Nat} {cA : Nat → ClassId} {tb : Nat} {E : zz_E} (hV : zz_ok (zc_V l D ad cA tb)) (h : zz_X (zc_V l D ad cA tb) E "FrameProcessor$Processor" prog_5_method_21_code 2 zt_T 1 25 none) (x1 : Int32) (y0 : Int32) (st : zz_S) : zz_Z (zc_V l D ad cA tb) E 2 0 0 (zz_q (zc_V l D ad cA tb) E zz_jv) (PR_awaitCondition_24 x1 y0 st) 24 [(0, .ref (ad 3)), (1, .int x1)] [.int y0, .ref (ad 3)] st := by
  unfold PR_awaitCondition_24
  refine zc_p_PR_waits h zi_PR zf_PR_147 dPR_awaitCondition_24 (fun s_1 => ?_)
  refine zz_aload_n h dPR_awaitCondition_27 rfl ?_
  refine zc_g_PR_waits h zi_PR zf_PR_147 dPR_awaitCondition_28 ?_
  refine zz_if_ne h 48 dPR_awaitCondition_31 rfl ?_ ?_
  · refine zz_aload_n h dPR_awaitCondition_34 rfl ?_
    refine zc_g_PR_memory h zi_PR zf_PR_9 dPR_awaitCondition_35 ?_
    refine zz_aload_n h dPR_awaitCondition_38 rfl ?_
    refine zc_g_PR_condition h zi_PR zf_PR_175 dPR_awaitCondition_39 ?_
    refine zz_iload_n h dPR_awaitCondition_42 rfl ?_
    refine zz_iconst (v := 1) h dPR_awaitCondition_43 zz_li_1 ?_
    refine zz_isub h dPR_awaitCondition_44 ?_
    refine zz_callV2v h 1 rfl rfl (ME_write_c hV _ _ _) ME_write_k zm_PR_162 rfl rfl ⟨Nat.le_of_ble_eq_true rfl, Nat.le_of_ble_eq_true rfl⟩ (Nat.le_of_ble_eq_true rfl) dPR_awaitCondition_45 (fun _ s_2 => ?_)
    exact zz_vret h dPR_awaitCondition_48
  · exact zz_vret h dPR_awaitCondition_48
set_option maxRecDepth 100000 in
set_option maxHeartbeats 4000000 in
theorem PR_awaitCondition_w {l : Launch} {D : va_G} {ad : Nat → Nat} {cA : Nat → ClassId} {tb : Nat} {E : zz_E} (hV : zz_ok (zc_V l D ad cA tb)) (h : zz_X (zc_V l D ad cA tb) E "FrameProcessor$Processor" prog_5_method_21_code 2 zt_T 1 25 none) (st : zz_S) : zz_Z (zc_V l D ad cA tb) E 2 0 0 (zz_q (zc_V l D ad cA tb) E zz_jv) (PR_awaitCondition_f  st) 0 [(0, .ref (ad 3))] [] st := by
  unfold PR_awaitCondition_f
  refine zz_aload_n h dPR_awaitCondition_0 rfl ?_
  refine zc_g_PR_memory h zi_PR zf_PR_9 dPR_awaitCondition_1 ?_
  refine zz_aload_n h dPR_awaitCondition_4 rfl ?_
  refine zc_g_PR_condition h zi_PR zf_PR_175 dPR_awaitCondition_5 ?_
  refine zz_callV1i h 1 rfl rfl (ME_read_c hV _ _) ME_read_k zm_PR_196 rfl rfl ⟨Nat.le_of_ble_eq_true rfl, Nat.le_of_ble_eq_true rfl⟩ (Nat.le_of_ble_eq_true rfl) dPR_awaitCondition_8 (fun r_4 s_3 => ?_)
  refine zz_istore_n h dPR_awaitCondition_11 (Nat.le_of_ble_eq_true rfl) ?_
  refine zz_aload_n h dPR_awaitCondition_12 rfl ?_
  refine zz_iload_n h dPR_awaitCondition_13 rfl ?_
  refine zz_iconst (v := 1) h dPR_awaitCondition_14 zz_li_1 ?_
  refine zz_iand h dPR_awaitCondition_15 ?_
  refine zz_if_ne h 23 dPR_awaitCondition_16 rfl ?_ ?_
  · refine zz_iconst (v := 1) h dPR_awaitCondition_19 zz_li_1 ?_
    refine zz_goto h 24 dPR_awaitCondition_20 rfl ?_
    exact zz_sub (PR_awaitCondition_24_w hV h _ _ _) rfl
  · refine zz_iconst (v := 0) h dPR_awaitCondition_23 zz_li_0 ?_
    exact zz_sub (PR_awaitCondition_24_w hV h _ _ _) rfl
theorem PR_awaitCondition_c {l : Launch} {D : va_G} {ad : Nat → Nat} {cA : Nat → ClassId} {tb : Nat} (hV : zz_ok (zc_V l D ad cA tb)) (st : zz_S) : zz_C (zc_V l D ad cA tb) yPR_awaitCondition (Cond.code yPR_awaitCondition prog_5_method_21_code 2 none :: zt_T) { frames := 1, cells := 0, slots := 0, locals := 25 } zz_jv [.ref (ad 3)] st (PR_awaitCondition_f  st) := zz_met hV (by decide +kernel) rfl (Nat.le_of_ble_eq_true rfl) rfl (fun E h => PR_awaitCondition_w hV h  st)
def PR_coordinate_f (st : zz_S) : Option (Unit × zz_S) := (zz_nm (zz_sg st 17) fun v_1 => (if v_1 = (40 : Int32) then (zz_bd (WS_pop_f st) fun r_4 s_3 => (zz_bd (PR_enterMonitor_f r_4 s_3) fun _ s_5 => (some ((), s_5)))) else (if v_1 = (41 : Int32) then (zz_bd (WS_pop_f st) fun r_8 s_7 => (zz_bd (PR_exitMonitor_f r_8 s_7) fun _ s_9 => (some ((), s_9)))) else (if v_1 = (42 : Int32) then (zz_bd (WS_pop_f st) fun r_12 s_11 => (zz_nm (zz_sp s_11 10 r_12) fun s_13 => (zz_bd (WS_pop_f s_13) fun r_15 s_14 => (zz_bd (ME_addressOf_f r_15 s_14) fun r_17 s_16 => (zz_nm (zz_sp s_16 9 r_17) fun s_18 => (zz_bd (WS_pop_f s_18) fun r_20 s_19 => (zz_bd (PR_exitMonitor_f r_20 s_19) fun _ s_21 => (zz_bd (PR_awaitCondition_f s_21) fun _ s_22 => (some ((), s_22)))))))))) else (if v_1 = (43 : Int32) then (zz_bd (WS_pop_f st) fun r_25 s_24 => (zz_bd (ME_addressOf_f r_25 s_24) fun r_27 s_26 => (zz_nm (zz_sp s_26 9 r_27) fun s_28 => (some ((), s_28))))) else (if v_1 = (44 : Int32) then (zz_bd (WS_pop_f st) fun r_31 s_30 => (zz_bd (ME_addressOf_f r_31 s_30) fun r_33 s_32 => (zz_nm (zz_sp s_32 9 r_33) fun s_34 => (some ((), s_34))))) else (some ((), st))))))))
set_option maxRecDepth 100000 in
set_option maxHeartbeats 4000000 in
theorem PR_coordinate_w {l : Launch} {D : va_G} {ad : Nat → Nat} {cA : Nat → ClassId} {tb : Nat} {E : zz_E} (hV : zz_ok (zc_V l D ad cA tb)) (h : zz_X (zc_V l D ad cA tb) E "FrameProcessor$Processor" prog_5_method_18_code 1 zt_T 2 46 none) (st : zz_S) : zz_Z (zc_V l D ad cA tb) E 1 0 0 (zz_q (zc_V l D ad cA tb) E zz_jv) (PR_coordinate_f  st) 0 [(0, .ref (ad 3))] [] st := by
  unfold PR_coordinate_f
  refine zz_aload_n h dPR_coordinate_0 rfl ?_
  refine zc_g_PR_instruction h zi_PR zf_PR_40 dPR_coordinate_1 ?_
  refine zc_g_IN_code h zi_IN zf_PR_92 dPR_coordinate_4 ?_
  refine zz_topi (fun v_1 => ?_)
  refine zz_ite (fun c_2 => ?_) (fun c_2 => ?_)
  · refine zz_table (off := 33) h 40 dPR_coordinate_7 c_2 (by decide) (by decide) (by decide) rfl ?_
    refine zz_aload_n h dPR_coordinate_40 rfl ?_
    refine zz_aload_n h dPR_coordinate_41 rfl ?_
    refine zc_g_PR_stack h zi_PR zf_PR_31 dPR_coordinate_42 ?_
    refine zz_callV0i h 5 rfl rfl (WS_pop_c hV _) WS_pop_k zm_PR_200 rfl rfl ⟨Nat.le_of_ble_eq_true rfl, Nat.le_of_ble_eq_true rfl⟩ (Nat.le_of_ble_eq_true rfl) dPR_coordinate_45 (fun r_4 s_3 => ?_)
    refine zz_callV1v h 3 rfl rfl (PR_enterMonitor_c hV _ _) PR_enterMonitor_k zm_PR_257 rfl rfl ⟨Nat.le_of_ble_eq_true rfl, Nat.le_of_ble_eq_true rfl⟩ (Nat.le_of_ble_eq_true rfl) dPR_coordinate_48 (fun _ s_5 => ?_)
    refine zz_goto h 128 dPR_coordinate_51 rfl ?_
    exact zz_vret h dPR_coordinate_128
  refine zz_ite (fun c_6 => ?_) (fun c_6 => ?_)
  · refine zz_table (off := 47) h 54 dPR_coordinate_7 c_6 (by decide) (by decide) (by decide) rfl ?_
    refine zz_aload_n h dPR_coordinate_54 rfl ?_
    refine zz_aload_n h dPR_coordinate_55 rfl ?_
    refine zc_g_PR_stack h zi_PR zf_PR_31 dPR_coordinate_56 ?_
    refine zz_callV0i h 5 rfl rfl (WS_pop_c hV _) WS_pop_k zm_PR_200 rfl rfl ⟨Nat.le_of_ble_eq_true rfl, Nat.le_of_ble_eq_true rfl⟩ (Nat.le_of_ble_eq_true rfl) dPR_coordinate_59 (fun r_8 s_7 => ?_)
    refine zz_callV1v h 3 rfl rfl (PR_exitMonitor_c hV _ _) PR_exitMonitor_k zm_PR_260 rfl rfl ⟨Nat.le_of_ble_eq_true rfl, Nat.le_of_ble_eq_true rfl⟩ (Nat.le_of_ble_eq_true rfl) dPR_coordinate_62 (fun _ s_9 => ?_)
    refine zz_goto h 128 dPR_coordinate_65 rfl ?_
    exact zz_vret h dPR_coordinate_128
  refine zz_ite (fun c_10 => ?_) (fun c_10 => ?_)
  · refine zz_table (off := 61) h 68 dPR_coordinate_7 c_10 (by decide) (by decide) (by decide) rfl ?_
    refine zz_aload_n h dPR_coordinate_68 rfl ?_
    refine zz_aload_n h dPR_coordinate_69 rfl ?_
    refine zc_g_PR_stack h zi_PR zf_PR_31 dPR_coordinate_70 ?_
    refine zz_callV0i h 5 rfl rfl (WS_pop_c hV _) WS_pop_k zm_PR_200 rfl rfl ⟨Nat.le_of_ble_eq_true rfl, Nat.le_of_ble_eq_true rfl⟩ (Nat.le_of_ble_eq_true rfl) dPR_coordinate_73 (fun r_12 s_11 => ?_)
    refine zc_p_PR_timeout h zi_PR zf_PR_178 dPR_coordinate_76 (fun s_13 => ?_)
    refine zz_aload_n h dPR_coordinate_79 rfl ?_
    refine zz_aload_n h dPR_coordinate_80 rfl ?_
    refine zc_g_PR_stack h zi_PR zf_PR_31 dPR_coordinate_81 ?_
    refine zz_callV0i h 5 rfl rfl (WS_pop_c hV _) WS_pop_k zm_PR_200 rfl rfl ⟨Nat.le_of_ble_eq_true rfl, Nat.le_of_ble_eq_true rfl⟩ (Nat.le_of_ble_eq_true rfl) dPR_coordinate_84 (fun r_15 s_14 => ?_)
    refine zz_callS1i h (ME_addressOf_c hV _ _) ME_addressOf_k zm_PR_263 rfl rfl ⟨Nat.le_of_ble_eq_true rfl, Nat.le_of_ble_eq_true rfl⟩ (Nat.le_of_ble_eq_true rfl) dPR_coordinate_87 (fun r_17 s_16 => ?_)
    refine zc_p_PR_condition h zi_PR zf_PR_175 dPR_coordinate_90 (fun s_18 => ?_)
    refine zz_aload_n h dPR_coordinate_93 rfl ?_
    refine zz_aload_n h dPR_coordinate_94 rfl ?_
    refine zc_g_PR_stack h zi_PR zf_PR_31 dPR_coordinate_95 ?_
    refine zz_callV0i h 5 rfl rfl (WS_pop_c hV _) WS_pop_k zm_PR_200 rfl rfl ⟨Nat.le_of_ble_eq_true rfl, Nat.le_of_ble_eq_true rfl⟩ (Nat.le_of_ble_eq_true rfl) dPR_coordinate_98 (fun r_20 s_19 => ?_)
    refine zz_callV1v h 3 rfl rfl (PR_exitMonitor_c hV _ _) PR_exitMonitor_k zm_PR_260 rfl rfl ⟨Nat.le_of_ble_eq_true rfl, Nat.le_of_ble_eq_true rfl⟩ (Nat.le_of_ble_eq_true rfl) dPR_coordinate_101 (fun _ s_21 => ?_)
    refine zz_aload_n h dPR_coordinate_104 rfl ?_
    refine zz_callV0v h 3 rfl rfl (PR_awaitCondition_c hV _) PR_awaitCondition_k zm_PR_266 rfl rfl ⟨Nat.le_of_ble_eq_true rfl, Nat.le_of_ble_eq_true rfl⟩ (Nat.le_of_ble_eq_true rfl) dPR_coordinate_105 (fun _ s_22 => ?_)
    refine zz_goto h 128 dPR_coordinate_108 rfl ?_
    exact zz_vret h dPR_coordinate_128
  refine zz_ite (fun c_23 => ?_) (fun c_23 => ?_)
  · refine zz_table (off := 104) h 111 dPR_coordinate_7 c_23 (by decide) (by decide) (by decide) rfl ?_
    refine zz_aload_n h dPR_coordinate_111 rfl ?_
    refine zz_aload_n h dPR_coordinate_112 rfl ?_
    refine zc_g_PR_stack h zi_PR zf_PR_31 dPR_coordinate_113 ?_
    refine zz_callV0i h 5 rfl rfl (WS_pop_c hV _) WS_pop_k zm_PR_200 rfl rfl ⟨Nat.le_of_ble_eq_true rfl, Nat.le_of_ble_eq_true rfl⟩ (Nat.le_of_ble_eq_true rfl) dPR_coordinate_116 (fun r_25 s_24 => ?_)
    refine zz_callS1i h (ME_addressOf_c hV _ _) ME_addressOf_k zm_PR_263 rfl rfl ⟨Nat.le_of_ble_eq_true rfl, Nat.le_of_ble_eq_true rfl⟩ (Nat.le_of_ble_eq_true rfl) dPR_coordinate_119 (fun r_27 s_26 => ?_)
    refine zc_p_PR_condition h zi_PR zf_PR_175 dPR_coordinate_122 (fun s_28 => ?_)
    refine zz_goto h 128 dPR_coordinate_125 rfl ?_
    exact zz_vret h dPR_coordinate_128
  refine zz_ite (fun c_29 => ?_) (fun c_29 => ?_)
  · refine zz_table (off := 104) h 111 dPR_coordinate_7 c_29 (by decide) (by decide) (by decide) rfl ?_
    refine zz_aload_n h dPR_coordinate_111 rfl ?_
    refine zz_aload_n h dPR_coordinate_112 rfl ?_
    refine zc_g_PR_stack h zi_PR zf_PR_31 dPR_coordinate_113 ?_
    refine zz_callV0i h 5 rfl rfl (WS_pop_c hV _) WS_pop_k zm_PR_200 rfl rfl ⟨Nat.le_of_ble_eq_true rfl, Nat.le_of_ble_eq_true rfl⟩ (Nat.le_of_ble_eq_true rfl) dPR_coordinate_116 (fun r_31 s_30 => ?_)
    refine zz_callS1i h (ME_addressOf_c hV _ _) ME_addressOf_k zm_PR_263 rfl rfl ⟨Nat.le_of_ble_eq_true rfl, Nat.le_of_ble_eq_true rfl⟩ (Nat.le_of_ble_eq_true rfl) dPR_coordinate_119 (fun r_33 s_32 => ?_)
    refine zc_p_PR_condition h zi_PR zf_PR_175 dPR_coordinate_122 (fun s_34 => ?_)
    refine zz_goto h 128 dPR_coordinate_125 rfl ?_
    exact zz_vret h dPR_coordinate_128
  refine zz_tableD h 128 dPR_coordinate_7 (by have z0 := lv_neT (a := 40) c_2 (by decide); have z1 := lv_neT (a := 41) c_6 (by decide); have z2 := lv_neT (a := 42) c_10 (by decide); have z3 := lv_neT (a := 43) c_23 (by decide); have z4 := lv_neT (a := 44) c_29 (by decide); omega) rfl ?_
  exact zz_vret h dPR_coordinate_128
theorem PR_coordinate_c {l : Launch} {D : va_G} {ad : Nat → Nat} {cA : Nat → ClassId} {tb : Nat} (hV : zz_ok (zc_V l D ad cA tb)) (st : zz_S) : zz_C (zc_V l D ad cA tb) yPR_coordinate (Cond.code yPR_coordinate prog_5_method_18_code 1 none :: zt_T) { frames := 2, cells := 0, slots := 0, locals := 46 } zz_jv [.ref (ad 3)] st (PR_coordinate_f  st) := zz_met hV (by decide +kernel) rfl (Nat.le_of_ble_eq_true rfl) rfl (fun E h => PR_coordinate_w hV h  st)
def RO_block_f (t1 : Nat) (x2 : Int32) (st : zz_S) : Option (Unit × zz_S) := (zz_bd (RO_nextChange_f st) fun r_2 s_1 => (zz_bd (TA_enter_f t1 (2 : Int32) r_2 s_1) fun _ s_3 => (zz_nm (zz_ap s_3 11 t1 x2) fun s_4 => (some ((), s_4)))))
set_option maxRecDepth 100000 in
set_option maxHeartbeats 4000000 in
theorem RO_block_w {l : Launch} {D : va_G} {ad : Nat → Nat} {cA : Nat → ClassId} {tb : Nat} {E : zz_E} (hV : zz_ok (zc_V l D ad cA tb)) (h : zz_X (zc_V l D ad cA tb) E "FrameProcessor$Roster" prog_6_method_11_code 3 zt_T 1 22 none) (t1 : Nat) (ht1 : t1 < 6) (x2 : Int32) (st : zz_S) : zz_Z (zc_V l D ad cA tb) E 3 0 0 (zz_q (zc_V l D ad cA tb) E zz_jv) (RO_block_f t1 x2 st) 0 [(0, .ref (ad 2)), (1, .ref (ad (15 + t1))), (2, .int x2)] [] st := by
  unfold RO_block_f
  refine zz_aload_n h dRO_block_0 rfl ?_
  refine zz_iconst (v := 2) h dRO_block_1 zz_li_2 ?_
  refine zz_aload_n h dRO_block_2 rfl ?_
  refine zz_callV0i h 2 rfl rfl (RO_nextChange_c hV _) RO_nextChange_k zm_RO_41 rfl rfl ⟨Nat.le_of_ble_eq_true rfl, Nat.le_of_ble_eq_true rfl⟩ (Nat.le_of_ble_eq_true rfl) dRO_block_3 (fun r_2 s_1 => ?_)
  refine zz_callV2v h (15 + t1) (zc_at ht1) rfl (TA_enter_c hV _ ht1 _ _ _) TA_enter_k zm_RO_45 rfl rfl ⟨Nat.le_of_ble_eq_true rfl, Nat.le_of_ble_eq_true rfl⟩ (Nat.le_of_ble_eq_true rfl) dRO_block_6 (fun _ s_3 => ?_)
  refine zz_aload_n h dRO_block_9 rfl ?_
  refine zz_iload_n h dRO_block_10 rfl ?_
  refine zc_p_TA_address ht1 h zi_TA zf_RO_28 dRO_block_11 (fun s_4 => ?_)
  exact zz_vret h dRO_block_14
theorem RO_block_c {l : Launch} {D : va_G} {ad : Nat → Nat} {cA : Nat → ClassId} {tb : Nat} (hV : zz_ok (zc_V l D ad cA tb)) (t1 : Nat) (ht1 : t1 < 6) (x2 : Int32) (st : zz_S) : zz_C (zc_V l D ad cA tb) yRO_block (Cond.code yRO_block prog_6_method_11_code 3 none :: zt_T) { frames := 1, cells := 0, slots := 0, locals := 22 } zz_jv [.ref (ad 2), .ref (ad (15 + t1)), .int x2] st (RO_block_f t1 x2 st) := zz_met hV (by decide +kernel) rfl (Nat.le_of_ble_eq_true rfl) rfl (fun E h => RO_block_w hV h t1 ht1 x2 st)
def WS_isOver_f (st : zz_S) : Option (Int32 × zz_S) := (if (zz_sg st 13) ≤ (8 : Int32) then (some ((0 : Int32), st)) else (some ((1 : Int32), st)))
set_option maxRecDepth 100000 in
set_option maxHeartbeats 4000000 in
theorem WS_isOver_w {l : Launch} {D : va_G} {ad : Nat → Nat} {cA : Nat → ClassId} {tb : Nat} {E : zz_E} (hV : zz_ok (zc_V l D ad cA tb)) (h : zz_X (zc_V l D ad cA tb) E "FrameProcessor$WorkStack" prog_8_method_3_code 1 zt_T 0 0 (some .boolean)) (st : zz_S) : zz_Z (zc_V l D ad cA tb) E 1 0 0 (zz_q (zc_V l D ad cA tb) E zz_ji) (WS_isOver_f  st) 0 [(0, .ref (ad 5))] [] st := by
  unfold WS_isOver_f
  refine zz_aload_n h dWS_isOver_0 rfl ?_
  refine zc_g_WS_depth h zi_WS zf_WS_25 dWS_isOver_1 ?_
  refine zz_bipush (v := 8) h dWS_isOver_4 zz_lb_8 ?_
  refine zz_icmp_le h 13 dWS_isOver_6 rfl ?_ ?_
  · refine zz_iconst (v := 0) h dWS_isOver_13 zz_li_0 ?_
    exact zz_zret h dWS_isOver_14 (by decide +kernel)
  · refine zz_iconst (v := 1) h dWS_isOver_9 zz_li_1 ?_
    refine zz_goto h 14 dWS_isOver_10 rfl ?_
    exact zz_zret h dWS_isOver_14 (by decide +kernel)
theorem WS_isOver_c {l : Launch} {D : va_G} {ad : Nat → Nat} {cA : Nat → ClassId} {tb : Nat} (hV : zz_ok (zc_V l D ad cA tb)) (st : zz_S) : zz_C (zc_V l D ad cA tb) yWS_isOver (Cond.code yWS_isOver prog_8_method_3_code 1 (some .boolean) :: zt_T) { frames := 0, cells := 0, slots := 0, locals := 0 } zz_ji [.ref (ad 5)] st (WS_isOver_f  st) := zz_met hV (by decide +kernel) rfl (Nat.le_of_ble_eq_true rfl) rfl (fun E h => WS_isOver_w hV h  st)
def PR_endAtNext_19 (st : zz_S) : Option (Unit × zz_S) := (if (zz_sg st 4) = 0 then (some ((), st)) else (zz_bd (PR_saveNext_f st) fun _ s_1 => (some ((), s_1))))
def PR_endAtNext_f (st : zz_S) : Option (Unit × zz_S) := (zz_bd (WS_isOver_f st) fun r_3 s_2 => (if r_3 = 0 then (PR_endAtNext_19 s_2) else (zz_bd (ME_fail_f (6 : Int32) s_2) fun _ s_4 => (PR_endAtNext_19 s_4))))
set_option maxRecDepth 100000 in
set_option maxHeartbeats 4000000 in
theorem PR_endAtNext_19_w {l : Launch} {D : va_G} {ad : Nat → Nat} {cA : Nat → ClassId} {tb : Nat} {E : zz_E} (hV : zz_ok (zc_V l D ad cA tb)) (h : zz_X (zc_V l D ad cA tb) E "FrameProcessor$Processor" prog_5_method_5_code 1 zt_T 2 45 none) (st : zz_S) : zz_Z (zc_V l D ad cA tb) E 1 0 0 (zz_q (zc_V l D ad cA tb) E zz_jv) (PR_endAtNext_19  st) 19 [(0, .ref (ad 3))] [] st := by
  unfold PR_endAtNext_19
  refine zz_aload_n h dPR_endAtNext_19 rfl ?_
  refine zc_g_PR_savesNext h zi_PR zf_PR_141 dPR_endAtNext_20 ?_
  refine zz_if_eq h 30 dPR_endAtNext_23 rfl ?_ ?_
  · exact zz_vret h dPR_endAtNext_30
  · refine zz_aload_n h dPR_endAtNext_26 rfl ?_
    refine zz_callV0v h 3 rfl rfl (PR_saveNext_c hV _) PR_saveNext_k zm_PR_156 rfl rfl ⟨Nat.le_of_ble_eq_true rfl, Nat.le_of_ble_eq_true rfl⟩ (Nat.le_of_ble_eq_true rfl) dPR_endAtNext_27 (fun _ s_1 => ?_)
    exact zz_vret h dPR_endAtNext_30
set_option maxRecDepth 100000 in
set_option maxHeartbeats 4000000 in
theorem PR_endAtNext_w {l : Launch} {D : va_G} {ad : Nat → Nat} {cA : Nat → ClassId} {tb : Nat} {E : zz_E} (hV : zz_ok (zc_V l D ad cA tb)) (h : zz_X (zc_V l D ad cA tb) E "FrameProcessor$Processor" prog_5_method_5_code 1 zt_T 2 45 none) (st : zz_S) : zz_Z (zc_V l D ad cA tb) E 1 0 0 (zz_q (zc_V l D ad cA tb) E zz_jv) (PR_endAtNext_f  st) 0 [(0, .ref (ad 3))] [] st := by
  unfold PR_endAtNext_f
  refine zz_aload_n h dPR_endAtNext_0 rfl ?_
  refine zc_g_PR_stack h zi_PR zf_PR_31 dPR_endAtNext_1 ?_
  refine zz_callV0i h 5 rfl rfl (WS_isOver_c hV _) WS_isOver_k zm_PR_150 rfl rfl ⟨Nat.le_of_ble_eq_true rfl, Nat.le_of_ble_eq_true rfl⟩ (Nat.le_of_ble_eq_true rfl) dPR_endAtNext_4 (fun r_3 s_2 => ?_)
  refine zz_if_eq h 19 dPR_endAtNext_7 rfl ?_ ?_
  · exact zz_sub (PR_endAtNext_19_w hV h  _) rfl
  · refine zz_aload_n h dPR_endAtNext_10 rfl ?_
    refine zc_g_PR_memory h zi_PR zf_PR_9 dPR_endAtNext_11 ?_
    refine zz_bipush (v := 6) h dPR_endAtNext_14 zz_lb_6 ?_
    refine zz_callV1v h 1 rfl rfl (ME_fail_c hV _ _) ME_fail_k zm_PR_153 rfl rfl ⟨Nat.le_of_ble_eq_true rfl, Nat.le_of_ble_eq_true rfl⟩ (Nat.le_of_ble_eq_true rfl) dPR_endAtNext_16 (fun _ s_4 => ?_)
    exact zz_sub (PR_endAtNext_19_w hV h  _) rfl
theorem PR_endAtNext_c {l : Launch} {D : va_G} {ad : Nat → Nat} {cA : Nat → ClassId} {tb : Nat} (hV : zz_ok (zc_V l D ad cA tb)) (st : zz_S) : zz_C (zc_V l D ad cA tb) yPR_endAtNext (Cond.code yPR_endAtNext prog_5_method_5_code 1 none :: zt_T) { frames := 2, cells := 0, slots := 0, locals := 45 } zz_jv [.ref (ad 3)] st (PR_endAtNext_f  st) := zz_met hV (by decide +kernel) rfl (Nat.le_of_ble_eq_true rfl) rfl (fun E h => PR_endAtNext_w hV h  st)
def ME_faultHeld_f (st : zz_S) : Option (Int32 × zz_S) := (some ((zz_sg st 1), st))
set_option maxRecDepth 100000 in
set_option maxHeartbeats 4000000 in
theorem ME_faultHeld_w {l : Launch} {D : va_G} {ad : Nat → Nat} {cA : Nat → ClassId} {tb : Nat} {E : zz_E} (hV : zz_ok (zc_V l D ad cA tb)) (h : zz_X (zc_V l D ad cA tb) E "FrameProcessor$Memory" prog_4_method_17_code 1 zt_T 0 0 (some .int)) (st : zz_S) : zz_Z (zc_V l D ad cA tb) E 1 0 0 (zz_q (zc_V l D ad cA tb) E zz_ji) (ME_faultHeld_f  st) 0 [(0, .ref (ad 1))] [] st := by
  unfold ME_faultHeld_f
  refine zz_aload_n h dME_faultHeld_0 rfl ?_
  refine zc_g_ME_fault h zi_ME zf_ME_44 dME_faultHeld_1 ?_
  exact zz_iret h dME_faultHeld_4
theorem ME_faultHeld_c {l : Launch} {D : va_G} {ad : Nat → Nat} {cA : Nat → ClassId} {tb : Nat} (hV : zz_ok (zc_V l D ad cA tb)) (st : zz_S) : zz_C (zc_V l D ad cA tb) yME_faultHeld (Cond.code yME_faultHeld prog_4_method_17_code 1 (some .int) :: zt_T) { frames := 0, cells := 0, slots := 0, locals := 0 } zz_ji [.ref (ad 1)] st (ME_faultHeld_f  st) := zz_met hV (by decide +kernel) rfl (Nat.le_of_ble_eq_true rfl) rfl (fun E h => ME_faultHeld_w hV h  st)
