def PR_shifted_f (x0 : Int32) (x1 : Int32) (st : zz_S) : Option (Int32 × zz_S) := (if x1 ≤ (-16 : Int32) then (some ((0 : Int32), st)) else (if x1 < (16 : Int32) then (if x1 < 0 then (some ((x0 >>> ((-x1) &&& 31)), st)) else (some ((x0 <<< (x1 &&& 31)), st))) else (some ((0 : Int32), st))))
set_option maxRecDepth 100000 in
set_option maxHeartbeats 4000000 in
theorem PR_shifted_w {l : Launch} {D : va_G} {ad : Nat → Nat} {cA : Nat → ClassId} {tb : Nat} {E : zz_E} (hV : zz_ok (zc_V l D ad cA tb)) (h : zz_X (zc_V l D ad cA tb) E "FrameProcessor$Processor" prog_5_method_11_code 2 zt_T 0 0 (some .int)) (x0 : Int32) (x1 : Int32) (st : zz_S) : zz_Z (zc_V l D ad cA tb) E 2 0 0 (zz_q (zc_V l D ad cA tb) E zz_ji) (PR_shifted_f x0 x1 st) 0 [(0, .int x0), (1, .int x1)] [] st := by
  unfold PR_shifted_f
  refine zz_iload_n h dPR_shifted_0 rfl ?_
  refine zz_bipush (v := -16) h dPR_shifted_1 zz_lb_m16 ?_
  refine zz_icmp_le h 12 dPR_shifted_3 rfl ?_ ?_
  · refine zz_iconst (v := 0) h dPR_shifted_12 zz_li_0 ?_
    exact zz_iret h dPR_shifted_13
  · refine zz_iload_n h dPR_shifted_6 rfl ?_
    refine zz_bipush (v := 16) h dPR_shifted_7 zz_lb_16 ?_
    refine zz_icmp_lt h 14 dPR_shifted_9 rfl ?_ ?_
    · refine zz_iload_n h dPR_shifted_14 rfl ?_
      refine zz_if_lt h 24 dPR_shifted_15 rfl ?_ ?_
      · refine zz_iload_n h dPR_shifted_24 rfl ?_
        refine zz_iload_n h dPR_shifted_25 rfl ?_
        refine zz_ineg h dPR_shifted_26 ?_
        refine zz_ishr h dPR_shifted_27 ?_
        exact zz_iret h dPR_shifted_28
      · refine zz_iload_n h dPR_shifted_18 rfl ?_
        refine zz_iload_n h dPR_shifted_19 rfl ?_
        refine zz_ishl h dPR_shifted_20 ?_
        refine zz_goto h 28 dPR_shifted_21 rfl ?_
        exact zz_iret h dPR_shifted_28
    · refine zz_iconst (v := 0) h dPR_shifted_12 zz_li_0 ?_
      exact zz_iret h dPR_shifted_13
theorem PR_shifted_c {l : Launch} {D : va_G} {ad : Nat → Nat} {cA : Nat → ClassId} {tb : Nat} (hV : zz_ok (zc_V l D ad cA tb)) (x0 : Int32) (x1 : Int32) (st : zz_S) : zz_C (zc_V l D ad cA tb) yPR_shifted (Cond.code yPR_shifted prog_5_method_11_code 2 (some .int) :: zt_T) { frames := 0, cells := 0, slots := 0, locals := 0 } zz_ji [.int x0, .int x1] st (PR_shifted_f x0 x1 st) := zz_met hV (by decide +kernel) rfl (Nat.le_of_ble_eq_true rfl) rfl (fun E h => PR_shifted_w hV h x0 x1 st)
def PR_combined_f (x0 : Int32) (x1 : Int32) (x2 : Int32) (st : zz_S) : Option (Int32 × zz_S) := (if x0 = (9 : Int32) then (some ((x1 + x2), st)) else (if x0 = (10 : Int32) then (some ((x1 - x2), st)) else (if x0 = (11 : Int32) then (some ((x1 * x2), st)) else (if x0 = (12 : Int32) then (if x2 = 0 then (some ((0 : Int32), st)) else (zz_gd (x2 != 0) (some ((x1 / x2), st)))) else (if x0 = (13 : Int32) then (some ((x1 &&& x2), st)) else (if x0 = (14 : Int32) then (some ((x1 ||| x2), st)) else (if x0 = (15 : Int32) then (some ((x1 ^^^ x2), st)) else (zz_bd (PR_shifted_f x1 (x2).toInt16.toInt32 st) fun r_9 s_8 => (some (r_9, s_8))))))))))
set_option maxRecDepth 100000 in
set_option maxHeartbeats 4000000 in
theorem PR_combined_w {l : Launch} {D : va_G} {ad : Nat → Nat} {cA : Nat → ClassId} {tb : Nat} {E : zz_E} (hV : zz_ok (zc_V l D ad cA tb)) (h : zz_X (zc_V l D ad cA tb) E "FrameProcessor$Processor" prog_5_method_10_code 3 zt_T 1 21 (some .int)) (x0 : Int32) (x1 : Int32) (x2 : Int32) (st : zz_S) : zz_Z (zc_V l D ad cA tb) E 3 0 0 (zz_q (zc_V l D ad cA tb) E zz_ji) (PR_combined_f x0 x1 x2 st) 0 [(0, .int x0), (1, .int x1), (2, .int x2)] [] st := by
  unfold PR_combined_f
  refine zz_iload_n h dPR_combined_0 rfl ?_
  refine zz_ite (fun c_1 => ?_) (fun c_1 => ?_)
  · refine zz_table (off := 43) h 44 dPR_combined_1 c_1 (by decide) (by decide) (by decide) rfl ?_
    refine zz_iload_n h dPR_combined_44 rfl ?_
    refine zz_iload_n h dPR_combined_45 rfl ?_
    refine zz_iadd h dPR_combined_46 ?_
    exact zz_iret h dPR_combined_47
  refine zz_ite (fun c_2 => ?_) (fun c_2 => ?_)
  · refine zz_table (off := 47) h 48 dPR_combined_1 c_2 (by decide) (by decide) (by decide) rfl ?_
    refine zz_iload_n h dPR_combined_48 rfl ?_
    refine zz_iload_n h dPR_combined_49 rfl ?_
    refine zz_isub h dPR_combined_50 ?_
    exact zz_iret h dPR_combined_51
  refine zz_ite (fun c_3 => ?_) (fun c_3 => ?_)
  · refine zz_table (off := 51) h 52 dPR_combined_1 c_3 (by decide) (by decide) (by decide) rfl ?_
    refine zz_iload_n h dPR_combined_52 rfl ?_
    refine zz_iload_n h dPR_combined_53 rfl ?_
    refine zz_imul h dPR_combined_54 ?_
    exact zz_iret h dPR_combined_55
  refine zz_ite (fun c_4 => ?_) (fun c_4 => ?_)
  · refine zz_table (off := 55) h 56 dPR_combined_1 c_4 (by decide) (by decide) (by decide) rfl ?_
    refine zz_iload_n h dPR_combined_56 rfl ?_
    refine zz_if_ne h 64 dPR_combined_57 rfl ?_ ?_
    · refine zz_iconst (v := 0) h dPR_combined_60 zz_li_0 ?_
      refine zz_goto h 67 dPR_combined_61 rfl ?_
      exact zz_iret h dPR_combined_67
    · refine zz_iload_n h dPR_combined_64 rfl ?_
      refine zz_iload_n h dPR_combined_65 rfl ?_
      refine zz_idivG h dPR_combined_66 ?_
      exact zz_iret h dPR_combined_67
  refine zz_ite (fun c_5 => ?_) (fun c_5 => ?_)
  · refine zz_table (off := 67) h 68 dPR_combined_1 c_5 (by decide) (by decide) (by decide) rfl ?_
    refine zz_iload_n h dPR_combined_68 rfl ?_
    refine zz_iload_n h dPR_combined_69 rfl ?_
    refine zz_iand h dPR_combined_70 ?_
    exact zz_iret h dPR_combined_71
  refine zz_ite (fun c_6 => ?_) (fun c_6 => ?_)
  · refine zz_table (off := 71) h 72 dPR_combined_1 c_6 (by decide) (by decide) (by decide) rfl ?_
    refine zz_iload_n h dPR_combined_72 rfl ?_
    refine zz_iload_n h dPR_combined_73 rfl ?_
    refine zz_ior h dPR_combined_74 ?_
    exact zz_iret h dPR_combined_75
  refine zz_ite (fun c_7 => ?_) (fun c_7 => ?_)
  · refine zz_table (off := 75) h 76 dPR_combined_1 c_7 (by decide) (by decide) (by decide) rfl ?_
    refine zz_iload_n h dPR_combined_76 rfl ?_
    refine zz_iload_n h dPR_combined_77 rfl ?_
    refine zz_ixor h dPR_combined_78 ?_
    exact zz_iret h dPR_combined_79
  refine zz_tableD h 80 dPR_combined_1 (by have z0 := lv_neT (a := 9) c_1 (by decide); have z1 := lv_neT (a := 10) c_2 (by decide); have z2 := lv_neT (a := 11) c_3 (by decide); have z3 := lv_neT (a := 12) c_4 (by decide); have z4 := lv_neT (a := 13) c_5 (by decide); have z5 := lv_neT (a := 14) c_6 (by decide); have z6 := lv_neT (a := 15) c_7 (by decide); omega) rfl ?_
  refine zz_iload_n h dPR_combined_80 rfl ?_
  refine zz_iload_n h dPR_combined_81 rfl ?_
  refine zz_i2s h dPR_combined_82 ?_
  refine zz_callS2i h (PR_shifted_c hV _ _ _) PR_shifted_k zm_PR_210 rfl rfl ⟨Nat.le_of_ble_eq_true rfl, Nat.le_of_ble_eq_true rfl⟩ (Nat.le_of_ble_eq_true rfl) dPR_combined_83 (fun r_9 s_8 => ?_)
  exact zz_iret h dPR_combined_86
theorem PR_combined_c {l : Launch} {D : va_G} {ad : Nat → Nat} {cA : Nat → ClassId} {tb : Nat} (hV : zz_ok (zc_V l D ad cA tb)) (x0 : Int32) (x1 : Int32) (x2 : Int32) (st : zz_S) : zz_C (zc_V l D ad cA tb) yPR_combined (Cond.code yPR_combined prog_5_method_10_code 3 (some .int) :: zt_T) { frames := 1, cells := 0, slots := 0, locals := 21 } zz_ji [.int x0, .int x1, .int x2] st (PR_combined_f x0 x1 x2 st) := zz_met hV (by decide +kernel) rfl (Nat.le_of_ble_eq_true rfl) rfl (fun E h => PR_combined_w hV h x0 x1 x2 st)
def PR_combine_44 (x1 : Int32) (x2 : Int32) (st : zz_S) : Option (Unit × zz_S) := (zz_bd (PR_combined_f (zz_sg st 17) x2 x1 st) fun r_2 s_1 => (zz_bd (WS_push_f r_2 s_1) fun _ s_3 => (some ((), s_3))))
def PR_combine_f (st : zz_S) : Option (Unit × zz_S) := (zz_bd (WS_pop_f st) fun r_5 s_4 => (zz_bd (WS_pop_f s_4) fun r_7 s_6 => (if (zz_sg s_6 17) = (12 : Int32) then (if r_5 = 0 then (zz_bd (ME_fail_f (7 : Int32) s_6) fun _ s_8 => (some ((), s_8))) else (PR_combine_44 r_5 r_7 s_6)) else (PR_combine_44 r_5 r_7 s_6))))
set_option maxRecDepth 100000 in
set_option maxHeartbeats 4000000 in
theorem PR_combine_44_w {l : Launch} {D : va_G} {ad : Nat → Nat} {cA : Nat → ClassId} {tb : Nat} {E : zz_E} (hV : zz_ok (zc_V l D ad cA tb)) (h : zz_X (zc_V l D ad cA tb) E "FrameProcessor$Processor" prog_5_method_9_code 3 zt_T 2 43 none) (x1 : Int32) (x2 : Int32) (st : zz_S) : zz_Z (zc_V l D ad cA tb) E 3 0 0 (zz_q (zc_V l D ad cA tb) E zz_jv) (PR_combine_44 x1 x2 st) 44 [(0, .ref (ad 3)), (1, .int x1), (2, .int x2)] [] st := by
  unfold PR_combine_44
  refine zz_aload_n h dPR_combine_44 rfl ?_
  refine zc_g_PR_stack h zi_PR zf_PR_31 dPR_combine_45 ?_
  refine zz_aload_n h dPR_combine_48 rfl ?_
  refine zc_g_PR_instruction h zi_PR zf_PR_40 dPR_combine_49 ?_
  refine zc_g_IN_code h zi_IN zf_PR_92 dPR_combine_52 ?_
  refine zz_iload_n h dPR_combine_55 rfl ?_
  refine zz_iload_n h dPR_combine_56 rfl ?_
  refine zz_callS3i h (PR_combined_c hV _ _ _ _) PR_combined_k zm_PR_206 rfl rfl ⟨Nat.le_of_ble_eq_true rfl, Nat.le_of_ble_eq_true rfl⟩ (Nat.le_of_ble_eq_true rfl) dPR_combine_57 (fun r_2 s_1 => ?_)
  refine zz_callV1v h 5 rfl rfl (WS_push_c hV _ _) WS_push_k zm_PR_193 rfl rfl ⟨Nat.le_of_ble_eq_true rfl, Nat.le_of_ble_eq_true rfl⟩ (Nat.le_of_ble_eq_true rfl) dPR_combine_60 (fun _ s_3 => ?_)
  exact zz_vret h dPR_combine_63
set_option maxRecDepth 100000 in
set_option maxHeartbeats 4000000 in
theorem PR_combine_w {l : Launch} {D : va_G} {ad : Nat → Nat} {cA : Nat → ClassId} {tb : Nat} {E : zz_E} (hV : zz_ok (zc_V l D ad cA tb)) (h : zz_X (zc_V l D ad cA tb) E "FrameProcessor$Processor" prog_5_method_9_code 3 zt_T 2 43 none) (st : zz_S) : zz_Z (zc_V l D ad cA tb) E 3 0 0 (zz_q (zc_V l D ad cA tb) E zz_jv) (PR_combine_f  st) 0 [(0, .ref (ad 3))] [] st := by
  unfold PR_combine_f
  refine zz_aload_n h dPR_combine_0 rfl ?_
  refine zc_g_PR_stack h zi_PR zf_PR_31 dPR_combine_1 ?_
  refine zz_callV0i h 5 rfl rfl (WS_pop_c hV _) WS_pop_k zm_PR_200 rfl rfl ⟨Nat.le_of_ble_eq_true rfl, Nat.le_of_ble_eq_true rfl⟩ (Nat.le_of_ble_eq_true rfl) dPR_combine_4 (fun r_5 s_4 => ?_)
  refine zz_istore_n h dPR_combine_7 (Nat.le_of_ble_eq_true rfl) ?_
  refine zz_aload_n h dPR_combine_8 rfl ?_
  refine zc_g_PR_stack h zi_PR zf_PR_31 dPR_combine_9 ?_
  refine zz_callV0i h 5 rfl rfl (WS_pop_c hV _) WS_pop_k zm_PR_200 rfl rfl ⟨Nat.le_of_ble_eq_true rfl, Nat.le_of_ble_eq_true rfl⟩ (Nat.le_of_ble_eq_true rfl) dPR_combine_12 (fun r_7 s_6 => ?_)
  refine zz_istore_n h dPR_combine_15 (Nat.le_of_ble_eq_true rfl) ?_
  refine zz_aload_n h dPR_combine_16 rfl ?_
  refine zc_g_PR_instruction h zi_PR zf_PR_40 dPR_combine_17 ?_
  refine zc_g_IN_code h zi_IN zf_PR_92 dPR_combine_20 ?_
  refine zz_bipush (v := 12) h dPR_combine_23 zz_lb_12 ?_
  refine zz_icmp_ne h 44 dPR_combine_25 rfl ?_ ?_
  · refine zz_iload_n h dPR_combine_28 rfl ?_
    refine zz_if_ne h 44 dPR_combine_29 rfl ?_ ?_
    · refine zz_aload_n h dPR_combine_32 rfl ?_
      refine zc_g_PR_memory h zi_PR zf_PR_9 dPR_combine_33 ?_
      refine zz_bipush (v := 7) h dPR_combine_36 zz_lb_7 ?_
      refine zz_callV1v h 1 rfl rfl (ME_fail_c hV _ _) ME_fail_k zm_PR_153 rfl rfl ⟨Nat.le_of_ble_eq_true rfl, Nat.le_of_ble_eq_true rfl⟩ (Nat.le_of_ble_eq_true rfl) dPR_combine_38 (fun _ s_8 => ?_)
      refine zz_goto h 63 dPR_combine_41 rfl ?_
      exact zz_vret h dPR_combine_63
    · exact zz_sub (PR_combine_44_w hV h _ _ _) rfl
  · exact zz_sub (PR_combine_44_w hV h _ _ _) rfl
theorem PR_combine_c {l : Launch} {D : va_G} {ad : Nat → Nat} {cA : Nat → ClassId} {tb : Nat} (hV : zz_ok (zc_V l D ad cA tb)) (st : zz_S) : zz_C (zc_V l D ad cA tb) yPR_combine (Cond.code yPR_combine prog_5_method_9_code 3 none :: zt_T) { frames := 2, cells := 0, slots := 0, locals := 43 } zz_jv [.ref (ad 3)] st (PR_combine_f  st) := zz_met hV (by decide +kernel) rfl (Nat.le_of_ble_eq_true rfl) rfl (fun E h => PR_combine_w hV h  st)
def IN_jump_f (st : zz_S) : Option (Unit × zz_S) := (zz_nm (zz_sp st 19 ((zz_sg st 16) + ((zz_sg st 18)).toInt8.toInt32)) fun s_1 => (some ((), s_1)))
set_option maxRecDepth 100000 in
set_option maxHeartbeats 4000000 in
theorem IN_jump_w {l : Launch} {D : va_G} {ad : Nat → Nat} {cA : Nat → ClassId} {tb : Nat} {E : zz_E} (hV : zz_ok (zc_V l D ad cA tb)) (h : zz_X (zc_V l D ad cA tb) E "FrameProcessor$Instruction" prog_3_method_3_code 1 zt_T 0 0 none) (st : zz_S) : zz_Z (zc_V l D ad cA tb) E 1 0 0 (zz_q (zc_V l D ad cA tb) E zz_jv) (IN_jump_f  st) 0 [(0, .ref (ad 6))] [] st := by
  unfold IN_jump_f
  refine zz_aload_n h dIN_jump_0 rfl ?_
  refine zz_aload_n h dIN_jump_1 rfl ?_
  refine zc_g_IN_first h zi_IN zf_IN_34 dIN_jump_2 ?_
  refine zz_aload_n h dIN_jump_5 rfl ?_
  refine zc_g_IN_operand h zi_IN zf_IN_52 dIN_jump_6 ?_
  refine zz_i2b h dIN_jump_9 ?_
  refine zz_iadd h dIN_jump_10 ?_
  refine zc_p_IN_next h zi_IN zf_IN_55 dIN_jump_11 (fun s_1 => ?_)
  exact zz_vret h dIN_jump_14
theorem IN_jump_c {l : Launch} {D : va_G} {ad : Nat → Nat} {cA : Nat → ClassId} {tb : Nat} (hV : zz_ok (zc_V l D ad cA tb)) (st : zz_S) : zz_C (zc_V l D ad cA tb) yIN_jump (Cond.code yIN_jump prog_3_method_3_code 1 none :: zt_T) { frames := 0, cells := 0, slots := 0, locals := 0 } zz_jv [.ref (ad 6)] st (IN_jump_f  st) := zz_met hV (by decide +kernel) rfl (Nat.le_of_ble_eq_true rfl) rfl (fun E h => IN_jump_w hV h  st)
def PR_fieldShift_f (st : zz_S) : Option (Int32 × zz_S) := (zz_nm ((zz_sg st 18) >>> ((4 : Int32) &&& 31)) fun v_1 => (zz_nm (((zz_sg st 18) &&& (15 : Int32)) + (1 : Int32)) fun v_2 => (some ((zz_max (0 : Int32) (((16 : Int32) - v_1) - v_2)), st))))
set_option maxRecDepth 100000 in
set_option maxHeartbeats 4000000 in
theorem PR_fieldShift_w {l : Launch} {D : va_G} {ad : Nat → Nat} {cA : Nat → ClassId} {tb : Nat} {E : zz_E} (hV : zz_ok (zc_V l D ad cA tb)) (h : zz_X (zc_V l D ad cA tb) E "FrameProcessor$Processor" prog_5_method_14_code 3 zt_T 1 21 (some .int)) (st : zz_S) : zz_Z (zc_V l D ad cA tb) E 3 0 0 (zz_q (zc_V l D ad cA tb) E zz_ji) (PR_fieldShift_f  st) 0 [(0, .ref (ad 3))] [] st := by
  unfold PR_fieldShift_f
  refine zz_aload_n h dPR_fieldShift_0 rfl ?_
  refine zc_g_PR_instruction h zi_PR zf_PR_40 dPR_fieldShift_1 ?_
  refine zc_g_IN_operand h zi_IN zf_PR_190 dPR_fieldShift_4 ?_
  refine zz_iconst (v := 4) h dPR_fieldShift_7 zz_li_4 ?_
  refine zz_ishr h dPR_fieldShift_8 ?_
  refine zz_topi (fun v_1 => ?_)
  refine zz_istore_n h dPR_fieldShift_9 (Nat.le_of_ble_eq_true rfl) ?_
  refine zz_aload_n h dPR_fieldShift_10 rfl ?_
  refine zc_g_PR_instruction h zi_PR zf_PR_40 dPR_fieldShift_11 ?_
  refine zc_g_IN_operand h zi_IN zf_PR_190 dPR_fieldShift_14 ?_
  refine zz_bipush (v := 15) h dPR_fieldShift_17 zz_lb_15 ?_
  refine zz_iand h dPR_fieldShift_19 ?_
  refine zz_iconst (v := 1) h dPR_fieldShift_20 zz_li_1 ?_
  refine zz_iadd h dPR_fieldShift_21 ?_
  refine zz_topi (fun v_2 => ?_)
  refine zz_istore_n h dPR_fieldShift_22 (Nat.le_of_ble_eq_true rfl) ?_
  refine zz_iconst (v := 0) h dPR_fieldShift_23 zz_li_0 ?_
  refine zz_bipush (v := 16) h dPR_fieldShift_24 zz_lb_16 ?_
  refine zz_iload_n h dPR_fieldShift_26 rfl ?_
  refine zz_isub h dPR_fieldShift_27 ?_
  refine zz_iload_n h dPR_fieldShift_28 rfl ?_
  refine zz_isub h dPR_fieldShift_29 ?_
  refine zz_mmax h zm_PR_223 zs_max zs_maxi zs_maxc (Nat.le_of_ble_eq_true rfl) (Nat.le_of_ble_eq_true rfl) dPR_fieldShift_30 ?_
  exact zz_iret h dPR_fieldShift_33
theorem PR_fieldShift_c {l : Launch} {D : va_G} {ad : Nat → Nat} {cA : Nat → ClassId} {tb : Nat} (hV : zz_ok (zc_V l D ad cA tb)) (st : zz_S) : zz_C (zc_V l D ad cA tb) yPR_fieldShift (Cond.code yPR_fieldShift prog_5_method_14_code 3 (some .int) :: zt_T) { frames := 1, cells := 0, slots := 0, locals := 21 } zz_ji [.ref (ad 3)] st (PR_fieldShift_f  st) := zz_met hV (by decide +kernel) rfl (Nat.le_of_ble_eq_true rfl) rfl (fun E h => PR_fieldShift_w hV h  st)
def PR_fieldMask_f (st : zz_S) : Option (Int32 × zz_S) := (zz_nm ((zz_sg st 18) >>> ((4 : Int32) &&& 31)) fun v_1 => (zz_bd (PR_fieldShift_f st) fun r_3 s_2 => (some ((((65535 : Int32) >>> (v_1 &&& 31)) &&& ((65535 : Int32) <<< (r_3 &&& 31))), s_2))))
set_option maxRecDepth 100000 in
set_option maxHeartbeats 4000000 in
theorem PR_fieldMask_w {l : Launch} {D : va_G} {ad : Nat → Nat} {cA : Nat → ClassId} {tb : Nat} {E : zz_E} (hV : zz_ok (zc_V l D ad cA tb)) (h : zz_X (zc_V l D ad cA tb) E "FrameProcessor$Processor" prog_5_method_13_code 2 zt_T 2 43 (some .int)) (st : zz_S) : zz_Z (zc_V l D ad cA tb) E 2 0 0 (zz_q (zc_V l D ad cA tb) E zz_ji) (PR_fieldMask_f  st) 0 [(0, .ref (ad 3))] [] st := by
  unfold PR_fieldMask_f
  refine zz_aload_n h dPR_fieldMask_0 rfl ?_
  refine zc_g_PR_instruction h zi_PR zf_PR_40 dPR_fieldMask_1 ?_
  refine zc_g_IN_operand h zi_IN zf_PR_190 dPR_fieldMask_4 ?_
  refine zz_iconst (v := 4) h dPR_fieldMask_7 zz_li_4 ?_
  refine zz_ishr h dPR_fieldMask_8 ?_
  refine zz_topi (fun v_1 => ?_)
  refine zz_istore_n h dPR_fieldMask_9 (Nat.le_of_ble_eq_true rfl) ?_
  refine zz_ldc (v := 65535) h dPR_fieldMask_10 zc_PR_222 ?_
  refine zz_iload_n h dPR_fieldMask_12 rfl ?_
  refine zz_ishr h dPR_fieldMask_13 ?_
  refine zz_ldc (v := 65535) h dPR_fieldMask_14 zc_PR_222 ?_
  refine zz_aload_n h dPR_fieldMask_16 rfl ?_
  refine zz_callV0i h 3 rfl rfl (PR_fieldShift_c hV _) PR_fieldShift_k zm_PR_219 rfl rfl ⟨Nat.le_of_ble_eq_true rfl, Nat.le_of_ble_eq_true rfl⟩ (Nat.le_of_ble_eq_true rfl) dPR_fieldMask_17 (fun r_3 s_2 => ?_)
  refine zz_ishl h dPR_fieldMask_20 ?_
  refine zz_iand h dPR_fieldMask_21 ?_
  exact zz_iret h dPR_fieldMask_22
theorem PR_fieldMask_c {l : Launch} {D : va_G} {ad : Nat → Nat} {cA : Nat → ClassId} {tb : Nat} (hV : zz_ok (zc_V l D ad cA tb)) (st : zz_S) : zz_C (zc_V l D ad cA tb) yPR_fieldMask (Cond.code yPR_fieldMask prog_5_method_13_code 2 (some .int) :: zt_T) { frames := 2, cells := 0, slots := 0, locals := 43 } zz_ji [.ref (ad 3)] st (PR_fieldMask_f  st) := zz_met hV (by decide +kernel) rfl (Nat.le_of_ble_eq_true rfl) rfl (fun E h => PR_fieldMask_w hV h  st)
def PR_arrange_f (st : zz_S) : Option (Unit × zz_S) := (zz_nm (zz_sg st 17) fun v_1 => (if v_1 = (17 : Int32) then (zz_bd (WS_pop_f st) fun r_4 s_3 => (zz_bd (WS_push_f r_4 s_3) fun _ s_5 => (zz_bd (WS_push_f r_4 s_5) fun _ s_6 => (some ((), s_6))))) else (if v_1 = (18 : Int32) then (zz_bd (WS_pop_f st) fun r_9 s_8 => (some ((), s_8))) else (if v_1 = (19 : Int32) then (zz_bd (WS_pop_f st) fun r_12 s_11 => (zz_bd (WS_pop_f s_11) fun r_14 s_13 => (zz_bd (WS_push_f r_12 s_13) fun _ s_15 => (zz_bd (WS_push_f r_14 s_15) fun _ s_16 => (some ((), s_16)))))) else (if v_1 = (20 : Int32) then (zz_bd (IN_jump_f st) fun _ s_18 => (some ((), s_18))) else (if v_1 = (21 : Int32) then (zz_bd (WS_pop_f st) fun r_21 s_20 => (if r_21 = 0 then (zz_bd (IN_jump_f s_20) fun _ s_22 => (some ((), s_22))) else (some ((), s_20)))) else (if v_1 = (22 : Int32) then (zz_bd (WS_pop_f st) fun r_25 s_24 => (zz_nm (r_25).toInt16.toInt32 fun v_26 => (zz_bd (WS_pop_f s_24) fun r_28 s_27 => (zz_nm (r_28).toInt16.toInt32 fun v_29 => (if v_26 ≤ v_29 then (some ((), s_27)) else (zz_bd (IN_jump_f s_27) fun _ s_30 => (some ((), s_30)))))))) else (if v_1 = (23 : Int32) then (zz_bd (WS_pop_f st) fun r_33 s_32 => (zz_bd (PR_fieldMask_f s_32) fun r_35 s_34 => (zz_bd (PR_fieldShift_f s_34) fun r_37 s_36 => (zz_bd (WS_push_f ((r_33 &&& r_35) >>> (r_37 &&& 31)) s_36) fun _ s_38 => (some ((), s_38)))))) else (if v_1 = (24 : Int32) then (zz_bd (WS_pop_f st) fun r_41 s_40 => (zz_bd (PR_fieldShift_f s_40) fun r_43 s_42 => (zz_nm (r_41 <<< (r_43 &&& 31)) fun v_44 => (zz_bd (WS_pop_f s_42) fun r_46 s_45 => (zz_bd (PR_fieldMask_f s_45) fun r_48 s_47 => (zz_bd (PR_fieldMask_f s_47) fun r_50 s_49 => (zz_bd (WS_push_f ((r_46 &&& (r_48 ^^^ (-1 : Int32))) ||| (v_44 &&& r_50)) s_49) fun _ s_51 => (some ((), s_51))))))))) else (some ((), st)))))))))))
set_option maxRecDepth 100000 in
set_option maxHeartbeats 4000000 in
theorem PR_arrange_w {l : Launch} {D : va_G} {ad : Nat → Nat} {cA : Nat → ClassId} {tb : Nat} {E : zz_E} (hV : zz_ok (zc_V l D ad cA tb)) (h : zz_X (zc_V l D ad cA tb) E "FrameProcessor$Processor" prog_5_method_12_code 7 zt_T 3 64 none) (st : zz_S) : zz_Z (zc_V l D ad cA tb) E 7 0 0 (zz_q (zc_V l D ad cA tb) E zz_jv) (PR_arrange_f  st) 0 [(0, .ref (ad 3))] [] st := by
  unfold PR_arrange_f
  refine zz_aload_n h dPR_arrange_0 rfl ?_
  refine zc_g_PR_instruction h zi_PR zf_PR_40 dPR_arrange_1 ?_
  refine zc_g_IN_code h zi_IN zf_PR_92 dPR_arrange_4 ?_
  refine zz_topi (fun v_1 => ?_)
  refine zz_ite (fun c_2 => ?_) (fun c_2 => ?_)
  · refine zz_table (off := 45) h 52 dPR_arrange_7 c_2 (by decide) (by decide) (by decide) rfl ?_
    refine zz_aload_n h dPR_arrange_52 rfl ?_
    refine zc_g_PR_stack h zi_PR zf_PR_31 dPR_arrange_53 ?_
    refine zz_callV0i h 5 rfl rfl (WS_pop_c hV _) WS_pop_k zm_PR_200 rfl rfl ⟨Nat.le_of_ble_eq_true rfl, Nat.le_of_ble_eq_true rfl⟩ (Nat.le_of_ble_eq_true rfl) dPR_arrange_56 (fun r_4 s_3 => ?_)
    refine zz_istore_n h dPR_arrange_59 (Nat.le_of_ble_eq_true rfl) ?_
    refine zz_aload_n h dPR_arrange_60 rfl ?_
    refine zc_g_PR_stack h zi_PR zf_PR_31 dPR_arrange_61 ?_
    refine zz_iload_n h dPR_arrange_64 rfl ?_
    refine zz_callV1v h 5 rfl rfl (WS_push_c hV _ _) WS_push_k zm_PR_193 rfl rfl ⟨Nat.le_of_ble_eq_true rfl, Nat.le_of_ble_eq_true rfl⟩ (Nat.le_of_ble_eq_true rfl) dPR_arrange_65 (fun _ s_5 => ?_)
    refine zz_aload_n h dPR_arrange_68 rfl ?_
    refine zc_g_PR_stack h zi_PR zf_PR_31 dPR_arrange_69 ?_
    refine zz_iload_n h dPR_arrange_72 rfl ?_
    refine zz_callV1v h 5 rfl rfl (WS_push_c hV _ _) WS_push_k zm_PR_193 rfl rfl ⟨Nat.le_of_ble_eq_true rfl, Nat.le_of_ble_eq_true rfl⟩ (Nat.le_of_ble_eq_true rfl) dPR_arrange_73 (fun _ s_6 => ?_)
    refine zz_goto h 265 dPR_arrange_76 rfl ?_
    exact zz_vret h dPR_arrange_265
  refine zz_ite (fun c_7 => ?_) (fun c_7 => ?_)
  · refine zz_table (off := 72) h 79 dPR_arrange_7 c_7 (by decide) (by decide) (by decide) rfl ?_
    refine zz_aload_n h dPR_arrange_79 rfl ?_
    refine zc_g_PR_stack h zi_PR zf_PR_31 dPR_arrange_80 ?_
    refine zz_callV0i h 5 rfl rfl (WS_pop_c hV _) WS_pop_k zm_PR_200 rfl rfl ⟨Nat.le_of_ble_eq_true rfl, Nat.le_of_ble_eq_true rfl⟩ (Nat.le_of_ble_eq_true rfl) dPR_arrange_83 (fun r_9 s_8 => ?_)
    refine zz_pop h dPR_arrange_86 rfl ?_
    refine zz_goto h 265 dPR_arrange_87 rfl ?_
    exact zz_vret h dPR_arrange_265
  refine zz_ite (fun c_10 => ?_) (fun c_10 => ?_)
  · refine zz_table (off := 83) h 90 dPR_arrange_7 c_10 (by decide) (by decide) (by decide) rfl ?_
    refine zz_aload_n h dPR_arrange_90 rfl ?_
    refine zc_g_PR_stack h zi_PR zf_PR_31 dPR_arrange_91 ?_
    refine zz_callV0i h 5 rfl rfl (WS_pop_c hV _) WS_pop_k zm_PR_200 rfl rfl ⟨Nat.le_of_ble_eq_true rfl, Nat.le_of_ble_eq_true rfl⟩ (Nat.le_of_ble_eq_true rfl) dPR_arrange_94 (fun r_12 s_11 => ?_)
    refine zz_istore_n h dPR_arrange_97 (Nat.le_of_ble_eq_true rfl) ?_
    refine zz_aload_n h dPR_arrange_98 rfl ?_
    refine zc_g_PR_stack h zi_PR zf_PR_31 dPR_arrange_99 ?_
    refine zz_callV0i h 5 rfl rfl (WS_pop_c hV _) WS_pop_k zm_PR_200 rfl rfl ⟨Nat.le_of_ble_eq_true rfl, Nat.le_of_ble_eq_true rfl⟩ (Nat.le_of_ble_eq_true rfl) dPR_arrange_102 (fun r_14 s_13 => ?_)
    refine zz_istore_n h dPR_arrange_105 (Nat.le_of_ble_eq_true rfl) ?_
    refine zz_aload_n h dPR_arrange_106 rfl ?_
    refine zc_g_PR_stack h zi_PR zf_PR_31 dPR_arrange_107 ?_
    refine zz_iload_n h dPR_arrange_110 rfl ?_
    refine zz_callV1v h 5 rfl rfl (WS_push_c hV _ _) WS_push_k zm_PR_193 rfl rfl ⟨Nat.le_of_ble_eq_true rfl, Nat.le_of_ble_eq_true rfl⟩ (Nat.le_of_ble_eq_true rfl) dPR_arrange_111 (fun _ s_15 => ?_)
    refine zz_aload_n h dPR_arrange_114 rfl ?_
    refine zc_g_PR_stack h zi_PR zf_PR_31 dPR_arrange_115 ?_
    refine zz_iload_n h dPR_arrange_118 rfl ?_
    refine zz_callV1v h 5 rfl rfl (WS_push_c hV _ _) WS_push_k zm_PR_193 rfl rfl ⟨Nat.le_of_ble_eq_true rfl, Nat.le_of_ble_eq_true rfl⟩ (Nat.le_of_ble_eq_true rfl) dPR_arrange_119 (fun _ s_16 => ?_)
    refine zz_goto h 265 dPR_arrange_122 rfl ?_
    exact zz_vret h dPR_arrange_265
  refine zz_ite (fun c_17 => ?_) (fun c_17 => ?_)
  · refine zz_table (off := 118) h 125 dPR_arrange_7 c_17 (by decide) (by decide) (by decide) rfl ?_
    refine zz_aload_n h dPR_arrange_125 rfl ?_
    refine zc_g_PR_instruction h zi_PR zf_PR_40 dPR_arrange_126 ?_
    refine zz_callV0v h 6 rfl rfl (IN_jump_c hV _) IN_jump_k zm_PR_213 rfl rfl ⟨Nat.le_of_ble_eq_true rfl, Nat.le_of_ble_eq_true rfl⟩ (Nat.le_of_ble_eq_true rfl) dPR_arrange_129 (fun _ s_18 => ?_)
    refine zz_goto h 265 dPR_arrange_132 rfl ?_
    exact zz_vret h dPR_arrange_265
  refine zz_ite (fun c_19 => ?_) (fun c_19 => ?_)
  · refine zz_table (off := 128) h 135 dPR_arrange_7 c_19 (by decide) (by decide) (by decide) rfl ?_
    refine zz_aload_n h dPR_arrange_135 rfl ?_
    refine zc_g_PR_stack h zi_PR zf_PR_31 dPR_arrange_136 ?_
    refine zz_callV0i h 5 rfl rfl (WS_pop_c hV _) WS_pop_k zm_PR_200 rfl rfl ⟨Nat.le_of_ble_eq_true rfl, Nat.le_of_ble_eq_true rfl⟩ (Nat.le_of_ble_eq_true rfl) dPR_arrange_139 (fun r_21 s_20 => ?_)
    refine zz_if_ne h 265 dPR_arrange_142 rfl ?_ ?_
    · refine zz_aload_n h dPR_arrange_145 rfl ?_
      refine zc_g_PR_instruction h zi_PR zf_PR_40 dPR_arrange_146 ?_
      refine zz_callV0v h 6 rfl rfl (IN_jump_c hV _) IN_jump_k zm_PR_213 rfl rfl ⟨Nat.le_of_ble_eq_true rfl, Nat.le_of_ble_eq_true rfl⟩ (Nat.le_of_ble_eq_true rfl) dPR_arrange_149 (fun _ s_22 => ?_)
      refine zz_goto h 265 dPR_arrange_152 rfl ?_
      exact zz_vret h dPR_arrange_265
    · exact zz_vret h dPR_arrange_265
  refine zz_ite (fun c_23 => ?_) (fun c_23 => ?_)
  · refine zz_table (off := 148) h 155 dPR_arrange_7 c_23 (by decide) (by decide) (by decide) rfl ?_
    refine zz_aload_n h dPR_arrange_155 rfl ?_
    refine zc_g_PR_stack h zi_PR zf_PR_31 dPR_arrange_156 ?_
    refine zz_callV0i h 5 rfl rfl (WS_pop_c hV _) WS_pop_k zm_PR_200 rfl rfl ⟨Nat.le_of_ble_eq_true rfl, Nat.le_of_ble_eq_true rfl⟩ (Nat.le_of_ble_eq_true rfl) dPR_arrange_159 (fun r_25 s_24 => ?_)
    refine zz_i2s h dPR_arrange_162 ?_
    refine zz_topi (fun v_26 => ?_)
    refine zz_istore h dPR_arrange_163 (Nat.le_of_ble_eq_true rfl) ?_
    refine zz_aload_n h dPR_arrange_165 rfl ?_
    refine zc_g_PR_stack h zi_PR zf_PR_31 dPR_arrange_166 ?_
    refine zz_callV0i h 5 rfl rfl (WS_pop_c hV _) WS_pop_k zm_PR_200 rfl rfl ⟨Nat.le_of_ble_eq_true rfl, Nat.le_of_ble_eq_true rfl⟩ (Nat.le_of_ble_eq_true rfl) dPR_arrange_169 (fun r_28 s_27 => ?_)
    refine zz_i2s h dPR_arrange_172 ?_
    refine zz_topi (fun v_29 => ?_)
    refine zz_istore h dPR_arrange_173 (Nat.le_of_ble_eq_true rfl) ?_
    refine zz_iload h dPR_arrange_175 rfl ?_
    refine zz_iload h dPR_arrange_177 rfl ?_
    refine zz_icmp_ge h 265 dPR_arrange_179 rfl ?_ ?_
    · exact zz_vret h dPR_arrange_265
    · refine zz_aload_n h dPR_arrange_182 rfl ?_
      refine zc_g_PR_instruction h zi_PR zf_PR_40 dPR_arrange_183 ?_
      refine zz_callV0v h 6 rfl rfl (IN_jump_c hV _) IN_jump_k zm_PR_213 rfl rfl ⟨Nat.le_of_ble_eq_true rfl, Nat.le_of_ble_eq_true rfl⟩ (Nat.le_of_ble_eq_true rfl) dPR_arrange_186 (fun _ s_30 => ?_)
      refine zz_goto h 265 dPR_arrange_189 rfl ?_
      exact zz_vret h dPR_arrange_265
  refine zz_ite (fun c_31 => ?_) (fun c_31 => ?_)
  · refine zz_table (off := 185) h 192 dPR_arrange_7 c_31 (by decide) (by decide) (by decide) rfl ?_
    refine zz_aload_n h dPR_arrange_192 rfl ?_
    refine zc_g_PR_stack h zi_PR zf_PR_31 dPR_arrange_193 ?_
    refine zz_aload_n h dPR_arrange_196 rfl ?_
    refine zc_g_PR_stack h zi_PR zf_PR_31 dPR_arrange_197 ?_
    refine zz_callV0i h 5 rfl rfl (WS_pop_c hV _) WS_pop_k zm_PR_200 rfl rfl ⟨Nat.le_of_ble_eq_true rfl, Nat.le_of_ble_eq_true rfl⟩ (Nat.le_of_ble_eq_true rfl) dPR_arrange_200 (fun r_33 s_32 => ?_)
    refine zz_aload_n h dPR_arrange_203 rfl ?_
    refine zz_callV0i h 3 rfl rfl (PR_fieldMask_c hV _) PR_fieldMask_k zm_PR_216 rfl rfl ⟨Nat.le_of_ble_eq_true rfl, Nat.le_of_ble_eq_true rfl⟩ (Nat.le_of_ble_eq_true rfl) dPR_arrange_204 (fun r_35 s_34 => ?_)
    refine zz_iand h dPR_arrange_207 ?_
    refine zz_aload_n h dPR_arrange_208 rfl ?_
    refine zz_callV0i h 3 rfl rfl (PR_fieldShift_c hV _) PR_fieldShift_k zm_PR_219 rfl rfl ⟨Nat.le_of_ble_eq_true rfl, Nat.le_of_ble_eq_true rfl⟩ (Nat.le_of_ble_eq_true rfl) dPR_arrange_209 (fun r_37 s_36 => ?_)
    refine zz_ishr h dPR_arrange_212 ?_
    refine zz_callV1v h 5 rfl rfl (WS_push_c hV _ _) WS_push_k zm_PR_193 rfl rfl ⟨Nat.le_of_ble_eq_true rfl, Nat.le_of_ble_eq_true rfl⟩ (Nat.le_of_ble_eq_true rfl) dPR_arrange_213 (fun _ s_38 => ?_)
    refine zz_goto h 265 dPR_arrange_216 rfl ?_
    exact zz_vret h dPR_arrange_265
  refine zz_ite (fun c_39 => ?_) (fun c_39 => ?_)
  · refine zz_table (off := 212) h 219 dPR_arrange_7 c_39 (by decide) (by decide) (by decide) rfl ?_
    refine zz_aload_n h dPR_arrange_219 rfl ?_
    refine zc_g_PR_stack h zi_PR zf_PR_31 dPR_arrange_220 ?_
    refine zz_callV0i h 5 rfl rfl (WS_pop_c hV _) WS_pop_k zm_PR_200 rfl rfl ⟨Nat.le_of_ble_eq_true rfl, Nat.le_of_ble_eq_true rfl⟩ (Nat.le_of_ble_eq_true rfl) dPR_arrange_223 (fun r_41 s_40 => ?_)
    refine zz_aload_n h dPR_arrange_226 rfl ?_
    refine zz_callV0i h 3 rfl rfl (PR_fieldShift_c hV _) PR_fieldShift_k zm_PR_219 rfl rfl ⟨Nat.le_of_ble_eq_true rfl, Nat.le_of_ble_eq_true rfl⟩ (Nat.le_of_ble_eq_true rfl) dPR_arrange_227 (fun r_43 s_42 => ?_)
    refine zz_ishl h dPR_arrange_230 ?_
    refine zz_topi (fun v_44 => ?_)
    refine zz_istore h dPR_arrange_231 (Nat.le_of_ble_eq_true rfl) ?_
    refine zz_aload_n h dPR_arrange_233 rfl ?_
    refine zc_g_PR_stack h zi_PR zf_PR_31 dPR_arrange_234 ?_
    refine zz_aload_n h dPR_arrange_237 rfl ?_
    refine zc_g_PR_stack h zi_PR zf_PR_31 dPR_arrange_238 ?_
    refine zz_callV0i h 5 rfl rfl (WS_pop_c hV _) WS_pop_k zm_PR_200 rfl rfl ⟨Nat.le_of_ble_eq_true rfl, Nat.le_of_ble_eq_true rfl⟩ (Nat.le_of_ble_eq_true rfl) dPR_arrange_241 (fun r_46 s_45 => ?_)
    refine zz_aload_n h dPR_arrange_244 rfl ?_
    refine zz_callV0i h 3 rfl rfl (PR_fieldMask_c hV _) PR_fieldMask_k zm_PR_216 rfl rfl ⟨Nat.le_of_ble_eq_true rfl, Nat.le_of_ble_eq_true rfl⟩ (Nat.le_of_ble_eq_true rfl) dPR_arrange_245 (fun r_48 s_47 => ?_)
    refine zz_iconst (v := -1) h dPR_arrange_248 zz_li_m1 ?_
    refine zz_ixor h dPR_arrange_249 ?_
    refine zz_iand h dPR_arrange_250 ?_
    refine zz_iload h dPR_arrange_251 rfl ?_
    refine zz_aload_n h dPR_arrange_253 rfl ?_
    refine zz_callV0i h 3 rfl rfl (PR_fieldMask_c hV _) PR_fieldMask_k zm_PR_216 rfl rfl ⟨Nat.le_of_ble_eq_true rfl, Nat.le_of_ble_eq_true rfl⟩ (Nat.le_of_ble_eq_true rfl) dPR_arrange_254 (fun r_50 s_49 => ?_)
    refine zz_iand h dPR_arrange_257 ?_
    refine zz_ior h dPR_arrange_258 ?_
    refine zz_callV1v h 5 rfl rfl (WS_push_c hV _ _) WS_push_k zm_PR_193 rfl rfl ⟨Nat.le_of_ble_eq_true rfl, Nat.le_of_ble_eq_true rfl⟩ (Nat.le_of_ble_eq_true rfl) dPR_arrange_259 (fun _ s_51 => ?_)
    refine zz_goto h 265 dPR_arrange_262 rfl ?_
    exact zz_vret h dPR_arrange_265
  refine zz_tableD h 265 dPR_arrange_7 (by have z0 := lv_neT (a := 17) c_2 (by decide); have z1 := lv_neT (a := 18) c_7 (by decide); have z2 := lv_neT (a := 19) c_10 (by decide); have z3 := lv_neT (a := 20) c_17 (by decide); have z4 := lv_neT (a := 21) c_19 (by decide); have z5 := lv_neT (a := 22) c_23 (by decide); have z6 := lv_neT (a := 23) c_31 (by decide); have z7 := lv_neT (a := 24) c_39 (by decide); omega) rfl ?_
  exact zz_vret h dPR_arrange_265
theorem PR_arrange_c {l : Launch} {D : va_G} {ad : Nat → Nat} {cA : Nat → ClassId} {tb : Nat} (hV : zz_ok (zc_V l D ad cA tb)) (st : zz_S) : zz_C (zc_V l D ad cA tb) yPR_arrange (Cond.code yPR_arrange prog_5_method_12_code 7 none :: zt_T) { frames := 3, cells := 0, slots := 0, locals := 64 } zz_jv [.ref (ad 3)] st (PR_arrange_f  st) := zz_met hV (by decide +kernel) rfl (Nat.le_of_ble_eq_true rfl) rfl (fun E h => PR_arrange_w hV h  st)
def PR_saveNext_f (st : zz_S) : Option (Unit × zz_S) := (zz_oc (zz_qg st 0) none fun t_1 => zz_gd (Nat.blt t_1 6) (zz_bd (ME_write_f ((zz_ag st 9 t_1) + (2 : Int32)) (zz_sg st 19) st) fun _ s_2 => (zz_gd (zz_bo (0 : Int32)) (zz_nm (zz_sp s_2 4 (0 : Int32)) fun s_3 => (some ((), s_3))))))
set_option maxRecDepth 100000 in
set_option maxHeartbeats 4000000 in
theorem PR_saveNext_w {l : Launch} {D : va_G} {ad : Nat → Nat} {cA : Nat → ClassId} {tb : Nat} {E : zz_E} (hV : zz_ok (zc_V l D ad cA tb)) (h : zz_X (zc_V l D ad cA tb) E "FrameProcessor$Processor" prog_5_method_6_code 1 zt_T 1 25 none) (st : zz_S) : zz_Z (zc_V l D ad cA tb) E 1 0 0 (zz_q (zc_V l D ad cA tb) E zz_jv) (PR_saveNext_f  st) 0 [(0, .ref (ad 3))] [] st := by
  unfold PR_saveNext_f
  refine zz_aload_n h dPR_saveNext_0 rfl ?_
  refine zc_g_PR_memory h zi_PR zf_PR_9 dPR_saveNext_1 ?_
  refine zz_aload_n h dPR_saveNext_4 rfl ?_
  refine zc_g_PR_task h zi_PR zf_PR_114 dPR_saveNext_5 ?_
  refine zz_nn (fun t_1 ht_1 => ?_)
  refine zc_g_TA_frame ht_1 h zi_TA zf_PR_140 dPR_saveNext_8 ?_
  refine zz_iconst (v := 2) h dPR_saveNext_11 zz_li_2 ?_
  refine zz_iadd h dPR_saveNext_12 ?_
  refine zz_aload_n h dPR_saveNext_13 rfl ?_
  refine zc_g_PR_instruction h zi_PR zf_PR_40 dPR_saveNext_14 ?_
  refine zc_g_IN_next h zi_IN zf_PR_159 dPR_saveNext_17 ?_
  refine zz_callV2v h 1 rfl rfl (ME_write_c hV _ _ _) ME_write_k zm_PR_162 rfl rfl ⟨Nat.le_of_ble_eq_true rfl, Nat.le_of_ble_eq_true rfl⟩ (Nat.le_of_ble_eq_true rfl) dPR_saveNext_20 (fun _ s_2 => ?_)
  refine zz_aload_n h dPR_saveNext_23 rfl ?_
  refine zz_iconst (v := 0) h dPR_saveNext_24 zz_li_0 ?_
  refine zc_p_PR_savesNext h zi_PR zf_PR_141 dPR_saveNext_25 (fun s_3 => ?_)
  exact zz_vret h dPR_saveNext_28
theorem PR_saveNext_c {l : Launch} {D : va_G} {ad : Nat → Nat} {cA : Nat → ClassId} {tb : Nat} (hV : zz_ok (zc_V l D ad cA tb)) (st : zz_S) : zz_C (zc_V l D ad cA tb) yPR_saveNext (Cond.code yPR_saveNext prog_5_method_6_code 1 none :: zt_T) { frames := 1, cells := 0, slots := 0, locals := 25 } zz_jv [.ref (ad 3)] st (PR_saveNext_f  st) := zz_met hV (by decide +kernel) rfl (Nat.le_of_ble_eq_true rfl) rfl (fun E h => PR_saveNext_w hV h  st)
def FR_procedure_f (x0 : Int32) (x1 : Int32) (st : zz_S) : Option (Int32 × zz_S) := (some ((((x0 * (32 : Int32)) + (x1 * (2 : Int32))) + (1 : Int32)), st))
set_option maxRecDepth 100000 in
set_option maxHeartbeats 4000000 in
theorem FR_procedure_w {l : Launch} {D : va_G} {ad : Nat → Nat} {cA : Nat → ClassId} {tb : Nat} {E : zz_E} (hV : zz_ok (zc_V l D ad cA tb)) (h : zz_X (zc_V l D ad cA tb) E "FrameProcessor$Frames" prog_2_method_8_code 2 zt_T 0 0 (some .int)) (x0 : Int32) (x1 : Int32) (st : zz_S) : zz_Z (zc_V l D ad cA tb) E 2 0 0 (zz_q (zc_V l D ad cA tb) E zz_ji) (FR_procedure_f x0 x1 st) 0 [(0, .int x0), (1, .int x1)] [] st := by
  unfold FR_procedure_f
  refine zz_iload_n h dFR_procedure_0 rfl ?_
  refine zz_bipush (v := 32) h dFR_procedure_1 zz_lb_32 ?_
  refine zz_imul h dFR_procedure_3 ?_
  refine zz_iload_n h dFR_procedure_4 rfl ?_
  refine zz_iconst (v := 2) h dFR_procedure_5 zz_li_2 ?_
  refine zz_imul h dFR_procedure_6 ?_
  refine zz_iadd h dFR_procedure_7 ?_
  refine zz_iconst (v := 1) h dFR_procedure_8 zz_li_1 ?_
  refine zz_iadd h dFR_procedure_9 ?_
  exact zz_iret h dFR_procedure_10
theorem FR_procedure_c {l : Launch} {D : va_G} {ad : Nat → Nat} {cA : Nat → ClassId} {tb : Nat} (hV : zz_ok (zc_V l D ad cA tb)) (x0 : Int32) (x1 : Int32) (st : zz_S) : zz_C (zc_V l D ad cA tb) yFR_procedure (Cond.code yFR_procedure prog_2_method_8_code 2 (some .int) :: zt_T) { frames := 0, cells := 0, slots := 0, locals := 0 } zz_ji [.int x0, .int x1] st (FR_procedure_f x0 x1 st) := zz_met hV (by decide +kernel) rfl (Nat.le_of_ble_eq_true rfl) rfl (fun E h => FR_procedure_w hV h x0 x1 st)
def PR_goTo_30 (y0 : Int32) (st : zz_S) : Option (Unit × zz_S) := (zz_nm (zz_sp st 3 y0) fun s_1 => (some ((), s_1)))
def PR_goTo_f (x1 : Int32) (x2 : Int32) (st : zz_S) : Option (Unit × zz_S) := (zz_bd (FR_meant_f x1 st) fun r_3 s_2 => (zz_bd (FR_isProcedure_f r_3 s_2) fun r_5 s_4 => (if r_5 = 0 then (PR_goTo_30 r_3 s_4) else (zz_bd (FR_open_f r_3 x2 s_4) fun r_7 s_6 => (PR_goTo_30 r_7 s_6)))))
set_option maxRecDepth 100000 in
set_option maxHeartbeats 4000000 in
theorem PR_goTo_30_w {l : Launch} {D : va_G} {ad : Nat → Nat} {cA : Nat → ClassId} {tb : Nat} {E : zz_E} (hV : zz_ok (zc_V l D ad cA tb)) (h : zz_X (zc_V l D ad cA tb) E "FrameProcessor$Processor" prog_5_method_16_code 4 zt_T 3 75 none) (y0 : Int32) (st : zz_S) : zz_Z (zc_V l D ad cA tb) E 4 0 0 (zz_q (zc_V l D ad cA tb) E zz_jv) (PR_goTo_30 y0 st) 30 [] [.int y0, .ref (ad 3)] st := by
  unfold PR_goTo_30
  refine zc_p_PR_frame h zi_PR zf_PR_85 dPR_goTo_30 (fun s_1 => ?_)
  exact zz_vret h dPR_goTo_33
set_option maxRecDepth 100000 in
set_option maxHeartbeats 4000000 in
theorem PR_goTo_w {l : Launch} {D : va_G} {ad : Nat → Nat} {cA : Nat → ClassId} {tb : Nat} {E : zz_E} (hV : zz_ok (zc_V l D ad cA tb)) (h : zz_X (zc_V l D ad cA tb) E "FrameProcessor$Processor" prog_5_method_16_code 4 zt_T 3 75 none) (x1 : Int32) (x2 : Int32) (st : zz_S) : zz_Z (zc_V l D ad cA tb) E 4 0 0 (zz_q (zc_V l D ad cA tb) E zz_jv) (PR_goTo_f x1 x2 st) 0 [(0, .ref (ad 3)), (1, .int x1), (2, .int x2)] [] st := by
  unfold PR_goTo_f
  refine zz_aload_n h dPR_goTo_0 rfl ?_
  refine zc_g_PR_frames h zi_PR zf_PR_24 dPR_goTo_1 ?_
  refine zz_iload_n h dPR_goTo_4 rfl ?_
  refine zz_callV1i h 4 rfl rfl (FR_meant_c hV _ _) FR_meant_k zm_PR_243 rfl rfl ⟨Nat.le_of_ble_eq_true rfl, Nat.le_of_ble_eq_true rfl⟩ (Nat.le_of_ble_eq_true rfl) dPR_goTo_5 (fun r_3 s_2 => ?_)
  refine zz_istore_n h dPR_goTo_8 (Nat.le_of_ble_eq_true rfl) ?_
  refine zz_aload_n h dPR_goTo_9 rfl ?_
  refine zz_iload_n h dPR_goTo_10 rfl ?_
  refine zz_callS1i h (FR_isProcedure_c hV _ _) FR_isProcedure_k zm_PR_246 rfl rfl ⟨Nat.le_of_ble_eq_true rfl, Nat.le_of_ble_eq_true rfl⟩ (Nat.le_of_ble_eq_true rfl) dPR_goTo_11 (fun r_5 s_4 => ?_)
  refine zz_if_eq h 29 dPR_goTo_14 rfl ?_ ?_
  · refine zz_iload_n h dPR_goTo_29 rfl ?_
    exact zz_sub (PR_goTo_30_w hV h _ _) rfl
  · refine zz_aload_n h dPR_goTo_17 rfl ?_
    refine zc_g_PR_frames h zi_PR zf_PR_24 dPR_goTo_18 ?_
    refine zz_iload_n h dPR_goTo_21 rfl ?_
    refine zz_iload_n h dPR_goTo_22 rfl ?_
    refine zz_callV2i h 4 rfl rfl (FR_open_c hV _ _ _) FR_open_k zm_PR_250 rfl rfl ⟨Nat.le_of_ble_eq_true rfl, Nat.le_of_ble_eq_true rfl⟩ (Nat.le_of_ble_eq_true rfl) dPR_goTo_23 (fun r_7 s_6 => ?_)
    refine zz_goto h 30 dPR_goTo_26 rfl ?_
    exact zz_sub (PR_goTo_30_w hV h _ _) rfl
theorem PR_goTo_c {l : Launch} {D : va_G} {ad : Nat → Nat} {cA : Nat → ClassId} {tb : Nat} (hV : zz_ok (zc_V l D ad cA tb)) (x1 : Int32) (x2 : Int32) (st : zz_S) : zz_C (zc_V l D ad cA tb) yPR_goTo (Cond.code yPR_goTo prog_5_method_16_code 4 none :: zt_T) { frames := 3, cells := 0, slots := 0, locals := 75 } zz_jv [.ref (ad 3), .int x1, .int x2] st (PR_goTo_f x1 x2 st) := zz_met hV (by decide +kernel) rfl (Nat.le_of_ble_eq_true rfl) rfl (fun E h => PR_goTo_w hV h x1 x2 st)
def FR_giveBack_f (x1 : Int32) (st : zz_S) : Option (Unit × zz_S) := (zz_bd (ME_read_f (x1 + (3 : Int32)) st) fun r_2 s_1 => (zz_nm (r_2 &&& (7 : Int32)) fun v_3 => (zz_bd (ME_read_f ((16 : Int32) + v_3) s_1) fun r_5 s_4 => (zz_bd (ME_write_f x1 r_5 s_4) fun _ s_6 => (zz_bd (ME_write_f ((16 : Int32) + v_3) x1 s_6) fun _ s_7 => (some ((), s_7)))))))
set_option maxRecDepth 100000 in
set_option maxHeartbeats 4000000 in
theorem FR_giveBack_w {l : Launch} {D : va_G} {ad : Nat → Nat} {cA : Nat → ClassId} {tb : Nat} {E : zz_E} (hV : zz_ok (zc_V l D ad cA tb)) (h : zz_X (zc_V l D ad cA tb) E "FrameProcessor$Frames" prog_2_method_3_code 4 zt_T 1 25 none) (x1 : Int32) (st : zz_S) : zz_Z (zc_V l D ad cA tb) E 4 0 0 (zz_q (zc_V l D ad cA tb) E zz_jv) (FR_giveBack_f x1 st) 0 [(0, .ref (ad 4)), (1, .int x1)] [] st := by
  unfold FR_giveBack_f
  refine zz_aload_n h dFR_giveBack_0 rfl ?_
  refine zc_g_FR_memory h zi_FR zf_FR_9 dFR_giveBack_1 ?_
  refine zz_iload_n h dFR_giveBack_4 rfl ?_
  refine zz_iconst (v := 3) h dFR_giveBack_5 zz_li_3 ?_
  refine zz_iadd h dFR_giveBack_6 ?_
  refine zz_callV1i h 1 rfl rfl (ME_read_c hV _ _) ME_read_k zm_FR_15 rfl rfl ⟨Nat.le_of_ble_eq_true rfl, Nat.le_of_ble_eq_true rfl⟩ (Nat.le_of_ble_eq_true rfl) dFR_giveBack_7 (fun r_2 s_1 => ?_)
  refine zz_bipush (v := 7) h dFR_giveBack_10 zz_lb_7 ?_
  refine zz_iand h dFR_giveBack_12 ?_
  refine zz_topi (fun v_3 => ?_)
  refine zz_istore_n h dFR_giveBack_13 (Nat.le_of_ble_eq_true rfl) ?_
  refine zz_aload_n h dFR_giveBack_14 rfl ?_
  refine zc_g_FR_memory h zi_FR zf_FR_9 dFR_giveBack_15 ?_
  refine zz_bipush (v := 16) h dFR_giveBack_18 zz_lb_16 ?_
  refine zz_iload_n h dFR_giveBack_20 rfl ?_
  refine zz_iadd h dFR_giveBack_21 ?_
  refine zz_callV1i h 1 rfl rfl (ME_read_c hV _ _) ME_read_k zm_FR_15 rfl rfl ⟨Nat.le_of_ble_eq_true rfl, Nat.le_of_ble_eq_true rfl⟩ (Nat.le_of_ble_eq_true rfl) dFR_giveBack_22 (fun r_5 s_4 => ?_)
  refine zz_istore_n h dFR_giveBack_25 (Nat.le_of_ble_eq_true rfl) ?_
  refine zz_aload_n h dFR_giveBack_26 rfl ?_
  refine zc_g_FR_memory h zi_FR zf_FR_9 dFR_giveBack_27 ?_
  refine zz_iload_n h dFR_giveBack_30 rfl ?_
  refine zz_iload_n h dFR_giveBack_31 rfl ?_
  refine zz_callV2v h 1 rfl rfl (ME_write_c hV _ _ _) ME_write_k zm_FR_25 rfl rfl ⟨Nat.le_of_ble_eq_true rfl, Nat.le_of_ble_eq_true rfl⟩ (Nat.le_of_ble_eq_true rfl) dFR_giveBack_32 (fun _ s_6 => ?_)
  refine zz_aload_n h dFR_giveBack_35 rfl ?_
  refine zc_g_FR_memory h zi_FR zf_FR_9 dFR_giveBack_36 ?_
  refine zz_bipush (v := 16) h dFR_giveBack_39 zz_lb_16 ?_
  refine zz_iload_n h dFR_giveBack_41 rfl ?_
  refine zz_iadd h dFR_giveBack_42 ?_
  refine zz_iload_n h dFR_giveBack_43 rfl ?_
  refine zz_callV2v h 1 rfl rfl (ME_write_c hV _ _ _) ME_write_k zm_FR_25 rfl rfl ⟨Nat.le_of_ble_eq_true rfl, Nat.le_of_ble_eq_true rfl⟩ (Nat.le_of_ble_eq_true rfl) dFR_giveBack_44 (fun _ s_7 => ?_)
  exact zz_vret h dFR_giveBack_47
theorem FR_giveBack_c {l : Launch} {D : va_G} {ad : Nat → Nat} {cA : Nat → ClassId} {tb : Nat} (hV : zz_ok (zc_V l D ad cA tb)) (x1 : Int32) (st : zz_S) : zz_C (zc_V l D ad cA tb) yFR_giveBack (Cond.code yFR_giveBack prog_2_method_3_code 4 none :: zt_T) { frames := 1, cells := 0, slots := 0, locals := 25 } zz_jv [.ref (ad 4), .int x1] st (FR_giveBack_f x1 st) := zz_met hV (by decide +kernel) rfl (Nat.le_of_ble_eq_true rfl) rfl (fun E h => FR_giveBack_w hV h x1 st)
