def FR_isProcedure_f (x0 : Int32) (st : zz_S) : Option (Int32 × zz_S) := (if (x0 &&& (1 : Int32)) = 0 then (some ((0 : Int32), st)) else (some ((1 : Int32), st)))
set_option maxRecDepth 100000 in
set_option maxHeartbeats 4000000 in
theorem FR_isProcedure_w {l : Launch} {D : va_G} {ad : Nat → Nat} {cA : Nat → ClassId} {tb : Nat} {E : zz_E} (hV : zz_ok (zc_V l D ad cA tb)) (h : zz_X (zc_V l D ad cA tb) E "FrameProcessor$Frames" prog_2_method_4_code 1 zt_T 0 0 (some .boolean)) (x0 : Int32) (st : zz_S) : zz_Z (zc_V l D ad cA tb) E 1 0 0 (zz_q (zc_V l D ad cA tb) E zz_ji) (FR_isProcedure_f x0 st) 0 [(0, .int x0)] [] st := by
  unfold FR_isProcedure_f
  refine zz_iload_n h dFR_isProcedure_0 rfl ?_
  refine zz_iconst (v := 1) h dFR_isProcedure_1 zz_li_1 ?_
  refine zz_iand h dFR_isProcedure_2 ?_
  refine zz_if_eq h 10 dFR_isProcedure_3 rfl ?_ ?_
  · refine zz_iconst (v := 0) h dFR_isProcedure_10 zz_li_0 ?_
    exact zz_zret h dFR_isProcedure_11 (by decide +kernel)
  · refine zz_iconst (v := 1) h dFR_isProcedure_6 zz_li_1 ?_
    refine zz_goto h 11 dFR_isProcedure_7 rfl ?_
    exact zz_zret h dFR_isProcedure_11 (by decide +kernel)
theorem FR_isProcedure_c {l : Launch} {D : va_G} {ad : Nat → Nat} {cA : Nat → ClassId} {tb : Nat} (hV : zz_ok (zc_V l D ad cA tb)) (x0 : Int32) (st : zz_S) : zz_C (zc_V l D ad cA tb) yFR_isProcedure (Cond.code yFR_isProcedure prog_2_method_4_code 1 (some .boolean) :: zt_T) { frames := 0, cells := 0, slots := 0, locals := 0 } zz_ji [.int x0] st (FR_isProcedure_f x0 st) := zz_met hV (by decide +kernel) rfl (Nat.le_of_ble_eq_true rfl) rfl (fun E h => FR_isProcedure_w hV h x0 st)
def FR_byteAt_f (x1 : Int32) (x2 : Int32) (st : zz_S) : Option (Int32 × zz_S) := (zz_bd (ME_read_f (x1 + ((x2 &&& (65535 : Int32)) / (2 : Int32))) st) fun r_2 s_1 => (if (x2 &&& (1 : Int32)) = 0 then (some ((r_2 >>> ((8 : Int32) &&& 31)), s_1)) else (some ((r_2 &&& (255 : Int32)), s_1))))
set_option maxRecDepth 100000 in
set_option maxHeartbeats 4000000 in
theorem FR_byteAt_w {l : Launch} {D : va_G} {ad : Nat → Nat} {cA : Nat → ClassId} {tb : Nat} {E : zz_E} (hV : zz_ok (zc_V l D ad cA tb)) (h : zz_X (zc_V l D ad cA tb) E "FrameProcessor$Frames" prog_2_method_7_code 4 zt_T 1 22 (some .int)) (x1 : Int32) (x2 : Int32) (st : zz_S) : zz_Z (zc_V l D ad cA tb) E 4 0 0 (zz_q (zc_V l D ad cA tb) E zz_ji) (FR_byteAt_f x1 x2 st) 0 [(0, .ref (ad 4)), (1, .int x1), (2, .int x2)] [] st := by
  unfold FR_byteAt_f
  refine zz_aload_n h dFR_byteAt_0 rfl ?_
  refine zc_g_FR_memory h zi_FR zf_FR_9 dFR_byteAt_1 ?_
  refine zz_iload_n h dFR_byteAt_4 rfl ?_
  refine zz_iload_n h dFR_byteAt_5 rfl ?_
  refine zz_ldc (v := 65535) h dFR_byteAt_6 zc_FR_33 ?_
  refine zz_iand h dFR_byteAt_8 ?_
  refine zz_iconst (v := 2) h dFR_byteAt_9 zz_li_2 ?_
  refine zz_idiv h dFR_byteAt_10 (by decide) ?_
  refine zz_iadd h dFR_byteAt_11 ?_
  refine zz_callV1i h 1 rfl rfl (ME_read_c hV _ _) ME_read_k zm_FR_15 rfl rfl ⟨Nat.le_of_ble_eq_true rfl, Nat.le_of_ble_eq_true rfl⟩ (Nat.le_of_ble_eq_true rfl) dFR_byteAt_12 (fun r_2 s_1 => ?_)
  refine zz_istore_n h dFR_byteAt_15 (Nat.le_of_ble_eq_true rfl) ?_
  refine zz_iload_n h dFR_byteAt_16 rfl ?_
  refine zz_iconst (v := 1) h dFR_byteAt_17 zz_li_1 ?_
  refine zz_iand h dFR_byteAt_18 ?_
  refine zz_if_ne h 29 dFR_byteAt_19 rfl ?_ ?_
  · refine zz_iload_n h dFR_byteAt_22 rfl ?_
    refine zz_bipush (v := 8) h dFR_byteAt_23 zz_lb_8 ?_
    refine zz_ishr h dFR_byteAt_25 ?_
    refine zz_goto h 34 dFR_byteAt_26 rfl ?_
    exact zz_iret h dFR_byteAt_34
  · refine zz_iload_n h dFR_byteAt_29 rfl ?_
    refine zz_sipush (v := 255) h dFR_byteAt_30 zz_ls_255 ?_
    refine zz_iand h dFR_byteAt_33 ?_
    exact zz_iret h dFR_byteAt_34
theorem FR_byteAt_c {l : Launch} {D : va_G} {ad : Nat → Nat} {cA : Nat → ClassId} {tb : Nat} (hV : zz_ok (zc_V l D ad cA tb)) (x1 : Int32) (x2 : Int32) (st : zz_S) : zz_C (zc_V l D ad cA tb) yFR_byteAt (Cond.code yFR_byteAt prog_2_method_7_code 4 (some .int) :: zt_T) { frames := 1, cells := 0, slots := 0, locals := 22 } zz_ji [.ref (ad 4), .int x1, .int x2] st (FR_byteAt_f x1 x2 st) := zz_met hV (by decide +kernel) rfl (Nat.le_of_ble_eq_true rfl) rfl (fun E h => FR_byteAt_w hV h x1 x2 st)
def ME_write_58 (x1 : Int32) (x2 : Int32) (x4 : Int32) (st : zz_S) : Option (Unit × zz_S) := (if (zz_sg st 1) = 0 then (if (zz_sg st 0) < (16 : Int32) then (zz_nm ((x4 * (256 : Int32)) + (x1 &&& (255 : Int32))) fun v_1 => (zz_nm (zz_sg st 0) fun v_2 => (zz_gd (zz_in v_2 16) (zz_nm (zz_ap st 4 v_2.toNatClampNeg v_1) fun s_3 => (zz_gd (zz_in v_1 3072) (zz_nm (zz_sg s_3 0) fun v_4 => (zz_gd (zz_in v_4 16) (zz_nm (zz_ap s_3 5 v_4.toNatClampNeg (zz_ag s_3 0 v_1.toNatClampNeg)) fun s_5 => (zz_nm (zz_sp s_5 0 ((zz_sg s_5 0) + (1 : Int32))) fun s_6 => (zz_gd (zz_in x4 12) (zz_gd (zz_in x4 12) (zz_nm (zz_ap s_6 3 x4.toNatClampNeg ((zz_ag s_6 3 x4.toNatClampNeg) ||| (3 : Int32))) fun s_7 => (zz_gd (zz_in v_1 3072) (zz_nm (zz_ap s_7 0 v_1.toNatClampNeg (x2 &&& (65535 : Int32))) fun s_8 => (some ((), s_8)))))))))))))))) else (some ((), st))) else (some ((), st)))
def ME_write_37 (x1 : Int32) (x2 : Int32) (x3 : Int32) (x4 : Int32) (st : zz_S) : Option (Unit × zz_S) := (if (zz_sg st 1) = 0 then (zz_gd (zz_in x3 16) (if (zz_ag st 2 x3.toNatClampNeg) = 0 then (ME_write_58 x1 x2 x4 st) else (zz_nm (zz_sp st 1 (2 : Int32)) fun s_9 => (ME_write_58 x1 x2 x4 s_9)))) else (ME_write_58 x1 x2 x4 st))
def ME_write_f (x1 : Int32) (x2 : Int32) (st : zz_S) : Option (Unit × zz_S) := (zz_nm ((x1 >>> ((8 : Int32) &&& 31)) &&& (15 : Int32)) fun v_10 => (zz_gd (zz_in v_10 16) (zz_nm (zz_ag st 1 v_10.toNatClampNeg) fun v_11 => (if (zz_sg st 1) = 0 then (if v_11 = (-1 : Int32) then (zz_nm (zz_sp st 1 (1 : Int32)) fun s_12 => (ME_write_58 x1 x2 v_11 s_12)) else (ME_write_37 x1 x2 v_10 v_11 st)) else (ME_write_37 x1 x2 v_10 v_11 st)))))
set_option maxRecDepth 100000 in
set_option maxHeartbeats 4000000 in
theorem ME_write_58_w {l : Launch} {D : va_G} {ad : Nat → Nat} {cA : Nat → ClassId} {tb : Nat} {E : zz_E} (hV : zz_ok (zc_V l D ad cA tb)) (h : zz_X (zc_V l D ad cA tb) E "FrameProcessor$Memory" prog_4_method_20_code 6 zt_T 0 0 none) (x1 : Int32) (x2 : Int32) (x4 : Int32) (st : zz_S) : zz_Z (zc_V l D ad cA tb) E 6 0 0 (zz_q (zc_V l D ad cA tb) E zz_jv) (ME_write_58 x1 x2 x4 st) 58 [(0, .ref (ad 1)), (1, .int x1), (2, .int x2), (4, .int x4)] [] st := by
  unfold ME_write_58
  refine zz_aload_n h dME_write_58 rfl ?_
  refine zc_g_ME_fault h zi_ME zf_ME_44 dME_write_59 ?_
  refine zz_if_ne h 74 dME_write_62 rfl ?_ ?_
  · refine zz_aload_n h dME_write_65 rfl ?_
    refine zc_g_ME_writes h zi_ME zf_ME_40 dME_write_66 ?_
    refine zz_bipush (v := 16) h dME_write_69 zz_lb_16 ?_
    refine zz_icmp_lt h 75 dME_write_71 rfl ?_ ?_
    · refine zz_iload h dME_write_75 rfl ?_
      refine zz_sipush (v := 256) h dME_write_77 zz_ls_256 ?_
      refine zz_imul h dME_write_80 ?_
      refine zz_iload_n h dME_write_81 rfl ?_
      refine zz_sipush (v := 255) h dME_write_82 zz_ls_255 ?_
      refine zz_iand h dME_write_85 ?_
      refine zz_iadd h dME_write_86 ?_
      refine zz_topi (fun v_1 => ?_)
      refine zz_istore h dME_write_87 (Nat.le_of_ble_eq_true rfl) ?_
      refine zz_aload_n h dME_write_89 rfl ?_
      refine zc_g_ME_writtenPlaces h zi_ME zf_ME_25 dME_write_90 ?_
      refine zz_aload_n h dME_write_93 rfl ?_
      refine zc_g_ME_writes h zi_ME zf_ME_40 dME_write_94 ?_
      refine zz_iload h dME_write_97 rfl ?_
      refine zz_top2 (fun v_2 => ?_)
      refine zc_st_11 h dME_write_99 (fun s_3 => ?_)
      refine zz_aload_n h dME_write_100 rfl ?_
      refine zc_g_ME_formerWords h zi_ME zf_ME_28 dME_write_101 ?_
      refine zz_aload_n h dME_write_104 rfl ?_
      refine zc_g_ME_writes h zi_ME zf_ME_40 dME_write_105 ?_
      refine zz_aload_n h dME_write_108 rfl ?_
      refine zc_g_ME_words h zi_ME zf_ME_11 dME_write_109 ?_
      refine zz_iload h dME_write_112 rfl ?_
      refine zc_ld_7 h dME_write_114 ?_
      refine zz_top2 (fun v_4 => ?_)
      refine zc_st_12 h dME_write_115 (fun s_5 => ?_)
      refine zz_aload_n h dME_write_116 rfl ?_
      refine zz_dup h dME_write_117 rfl ?_
      refine zc_g_ME_writes h zi_ME zf_ME_40 dME_write_118 ?_
      refine zz_iconst (v := 1) h dME_write_121 zz_li_1 ?_
      refine zz_iadd h dME_write_122 ?_
      refine zc_p_ME_writes h zi_ME zf_ME_40 dME_write_123 (fun s_6 => ?_)
      refine zz_aload_n h dME_write_126 rfl ?_
      refine zc_g_ME_notes h zi_ME zf_ME_22 dME_write_127 ?_
      refine zz_iload h dME_write_130 rfl ?_
      refine zz_dup2 h dME_write_132 rfl rfl ?_
      refine zc_ld_10 h dME_write_133 ?_
      refine zz_iconst (v := 3) h dME_write_134 zz_li_3 ?_
      refine zz_ior h dME_write_135 ?_
      refine zc_st_10 h dME_write_136 (fun s_7 => ?_)
      refine zz_aload_n h dME_write_137 rfl ?_
      refine zc_g_ME_words h zi_ME zf_ME_11 dME_write_138 ?_
      refine zz_iload h dME_write_141 rfl ?_
      refine zz_iload_n h dME_write_143 rfl ?_
      refine zz_ldc (v := 65535) h dME_write_144 zc_ME_31 ?_
      refine zz_iand h dME_write_146 ?_
      refine zc_st_7 h dME_write_147 (fun s_8 => ?_)
      exact zz_vret h dME_write_148
    · exact zz_vret h dME_write_74
  · exact zz_vret h dME_write_74
set_option maxRecDepth 100000 in
set_option maxHeartbeats 4000000 in
theorem ME_write_37_w {l : Launch} {D : va_G} {ad : Nat → Nat} {cA : Nat → ClassId} {tb : Nat} {E : zz_E} (hV : zz_ok (zc_V l D ad cA tb)) (h : zz_X (zc_V l D ad cA tb) E "FrameProcessor$Memory" prog_4_method_20_code 6 zt_T 0 0 none) (x1 : Int32) (x2 : Int32) (x3 : Int32) (x4 : Int32) (st : zz_S) : zz_Z (zc_V l D ad cA tb) E 6 0 0 (zz_q (zc_V l D ad cA tb) E zz_jv) (ME_write_37 x1 x2 x3 x4 st) 37 [(0, .ref (ad 1)), (1, .int x1), (2, .int x2), (3, .int x3), (4, .int x4)] [] st := by
  unfold ME_write_37
  refine zz_aload_n h dME_write_37 rfl ?_
  refine zc_g_ME_fault h zi_ME zf_ME_44 dME_write_38 ?_
  refine zz_if_ne h 58 dME_write_41 rfl ?_ ?_
  · refine zz_aload_n h dME_write_44 rfl ?_
    refine zc_g_ME_guarded h zi_ME zf_ME_18 dME_write_45 ?_
    refine zz_iload_n h dME_write_48 rfl ?_
    refine zc_ld_9 h dME_write_49 ?_
    refine zz_if_eq h 58 dME_write_50 rfl ?_ ?_
    · exact zz_sub (ME_write_58_w hV h _ _ _ _) rfl
    · refine zz_aload_n h dME_write_53 rfl ?_
      refine zz_iconst (v := 2) h dME_write_54 zz_li_2 ?_
      refine zc_p_ME_fault h zi_ME zf_ME_44 dME_write_55 (fun s_9 => ?_)
      exact zz_sub (ME_write_58_w hV h _ _ _ _) rfl
  · exact zz_sub (ME_write_58_w hV h _ _ _ _) rfl
set_option maxRecDepth 100000 in
set_option maxHeartbeats 4000000 in
theorem ME_write_w {l : Launch} {D : va_G} {ad : Nat → Nat} {cA : Nat → ClassId} {tb : Nat} {E : zz_E} (hV : zz_ok (zc_V l D ad cA tb)) (h : zz_X (zc_V l D ad cA tb) E "FrameProcessor$Memory" prog_4_method_20_code 6 zt_T 0 0 none) (x1 : Int32) (x2 : Int32) (st : zz_S) : zz_Z (zc_V l D ad cA tb) E 6 0 0 (zz_q (zc_V l D ad cA tb) E zz_jv) (ME_write_f x1 x2 st) 0 [(0, .ref (ad 1)), (1, .int x1), (2, .int x2)] [] st := by
  unfold ME_write_f
  refine zz_iload_n h dME_write_0 rfl ?_
  refine zz_bipush (v := 8) h dME_write_1 zz_lb_8 ?_
  refine zz_ishr h dME_write_3 ?_
  refine zz_bipush (v := 15) h dME_write_4 zz_lb_15 ?_
  refine zz_iand h dME_write_6 ?_
  refine zz_topi (fun v_10 => ?_)
  refine zz_istore_n h dME_write_7 (Nat.le_of_ble_eq_true rfl) ?_
  refine zz_aload_n h dME_write_8 rfl ?_
  refine zc_g_ME_reals h zi_ME zf_ME_15 dME_write_9 ?_
  refine zz_iload_n h dME_write_12 rfl ?_
  refine zc_ld_8 h dME_write_13 ?_
  refine zz_topi (fun v_11 => ?_)
  refine zz_istore h dME_write_14 (Nat.le_of_ble_eq_true rfl) ?_
  refine zz_aload_n h dME_write_16 rfl ?_
  refine zc_g_ME_fault h zi_ME zf_ME_44 dME_write_17 ?_
  refine zz_if_ne h 37 dME_write_20 rfl ?_ ?_
  · refine zz_iload h dME_write_23 rfl ?_
    refine zz_iconst (v := -1) h dME_write_25 zz_li_m1 ?_
    refine zz_icmp_ne h 37 dME_write_26 rfl ?_ ?_
    · refine zz_aload_n h dME_write_29 rfl ?_
      refine zz_iconst (v := 1) h dME_write_30 zz_li_1 ?_
      refine zc_p_ME_fault h zi_ME zf_ME_44 dME_write_31 (fun s_12 => ?_)
      refine zz_goto h 58 dME_write_34 rfl ?_
      exact zz_sub (ME_write_58_w hV h _ _ _ _) rfl
    · exact zz_sub (ME_write_37_w hV h _ _ _ _ _) rfl
  · exact zz_sub (ME_write_37_w hV h _ _ _ _ _) rfl
theorem ME_write_c {l : Launch} {D : va_G} {ad : Nat → Nat} {cA : Nat → ClassId} {tb : Nat} (hV : zz_ok (zc_V l D ad cA tb)) (x1 : Int32) (x2 : Int32) (st : zz_S) : zz_C (zc_V l D ad cA tb) yME_write (Cond.code yME_write prog_4_method_20_code 6 none :: zt_T) { frames := 0, cells := 0, slots := 0, locals := 0 } zz_jv [.ref (ad 1), .int x1, .int x2] st (ME_write_f x1 x2 st) := zz_met hV (by decide +kernel) rfl (Nat.le_of_ble_eq_true rfl) rfl (fun E h => ME_write_w hV h x1 x2 st)
def FR_take_40 (x2 : Int32) (x3 : Int32) (st : zz_S) : Option (Int32 × zz_S) := (if x2 = 0 then (zz_bd (ME_fail_f (3 : Int32) st) fun _ s_1 => (some ((0 : Int32), s_1))) else (zz_bd (ME_read_f x2 st) fun r_3 s_2 => (zz_bd (ME_write_f ((16 : Int32) + x3) r_3 s_2) fun _ s_4 => (zz_bd (ME_write_f (x2 + (3 : Int32)) x3 s_4) fun _ s_5 => (some (x2, s_5))))))
def FR_take_7b (k7 : Int32 → Int32 → Int32 → zz_S → Option (Int32 × zz_S)) (x2 : Int32) (x3 : Int32) (x4 : Int32) (st : zz_S) : Option (Int32 × zz_S) := (if (8 : Int32) ≤ x4 then (FR_take_40 x2 x3 st) else (if x2 = 0 then (zz_bd (ME_read_f ((16 : Int32) + x4) st) fun r_7 s_6 => (k7 r_7 x4 (x4 + (1 : Int32)) s_6)) else (FR_take_40 x2 x3 st)))
def FR_take_7 : Nat → Int32 → Int32 → Int32 → zz_S → Option (Int32 × zz_S)
  | 0 => fun _ _ _ _ => none
  | n + 1 => FR_take_7b (FR_take_7 n)
def FR_take_f (x1 : Int32) (st : zz_S) : Option (Int32 × zz_S) := (FR_take_7 10 (0 : Int32) x1 x1 st)
set_option maxRecDepth 100000 in
set_option maxHeartbeats 4000000 in
theorem FR_take_40_w {l : Launch} {D : va_G} {ad : Nat → Nat} {cA : Nat → ClassId} {tb : Nat} {E : zz_E} (hV : zz_ok (zc_V l D ad cA tb)) (h : zz_X (zc_V l D ad cA tb) E "FrameProcessor$Frames" prog_2_method_2_code 5 zt_T 1 25 (some .int)) (x2 : Int32) (x3 : Int32) (st : zz_S) : zz_Z (zc_V l D ad cA tb) E 5 0 0 (zz_q (zc_V l D ad cA tb) E zz_ji) (FR_take_40 x2 x3 st) 40 [(0, .ref (ad 4)), (2, .int x2), (3, .int x3)] [] st := by
  unfold FR_take_40
  refine zz_iload_n h dFR_take_40 rfl ?_
  refine zz_if_ne h 54 dFR_take_41 rfl ?_ ?_
  · refine zz_aload_n h dFR_take_44 rfl ?_
    refine zc_g_FR_memory h zi_FR zf_FR_9 dFR_take_45 ?_
    refine zz_iconst (v := 3) h dFR_take_48 zz_li_3 ?_
    refine zz_callV1v h 1 rfl rfl (ME_fail_c hV _ _) ME_fail_k zm_FR_21 rfl rfl ⟨Nat.le_of_ble_eq_true rfl, Nat.le_of_ble_eq_true rfl⟩ (Nat.le_of_ble_eq_true rfl) dFR_take_49 (fun _ s_1 => ?_)
    refine zz_iconst (v := 0) h dFR_take_52 zz_li_0 ?_
    exact zz_iret h dFR_take_53
  · refine zz_aload_n h dFR_take_54 rfl ?_
    refine zc_g_FR_memory h zi_FR zf_FR_9 dFR_take_55 ?_
    refine zz_bipush (v := 16) h dFR_take_58 zz_lb_16 ?_
    refine zz_iload_n h dFR_take_60 rfl ?_
    refine zz_iadd h dFR_take_61 ?_
    refine zz_aload_n h dFR_take_62 rfl ?_
    refine zc_g_FR_memory h zi_FR zf_FR_9 dFR_take_63 ?_
    refine zz_iload_n h dFR_take_66 rfl ?_
    refine zz_callV1i h 1 rfl rfl (ME_read_c hV _ _) ME_read_k zm_FR_15 rfl rfl ⟨Nat.le_of_ble_eq_true rfl, Nat.le_of_ble_eq_true rfl⟩ (Nat.le_of_ble_eq_true rfl) dFR_take_67 (fun r_3 s_2 => ?_)
    refine zz_callV2v h 1 rfl rfl (ME_write_c hV _ _ _) ME_write_k zm_FR_25 rfl rfl ⟨Nat.le_of_ble_eq_true rfl, Nat.le_of_ble_eq_true rfl⟩ (Nat.le_of_ble_eq_true rfl) dFR_take_70 (fun _ s_4 => ?_)
    refine zz_aload_n h dFR_take_73 rfl ?_
    refine zc_g_FR_memory h zi_FR zf_FR_9 dFR_take_74 ?_
    refine zz_iload_n h dFR_take_77 rfl ?_
    refine zz_iconst (v := 3) h dFR_take_78 zz_li_3 ?_
    refine zz_iadd h dFR_take_79 ?_
    refine zz_iload_n h dFR_take_80 rfl ?_
    refine zz_callV2v h 1 rfl rfl (ME_write_c hV _ _ _) ME_write_k zm_FR_25 rfl rfl ⟨Nat.le_of_ble_eq_true rfl, Nat.le_of_ble_eq_true rfl⟩ (Nat.le_of_ble_eq_true rfl) dFR_take_81 (fun _ s_5 => ?_)
    refine zz_iload_n h dFR_take_84 rfl ?_
    exact zz_iret h dFR_take_85
set_option maxRecDepth 100000 in
set_option maxHeartbeats 4000000 in
theorem FR_take_7b_w {l : Launch} {D : va_G} {ad : Nat → Nat} {cA : Nat → ClassId} {tb : Nat} {E : zz_E} (hV : zz_ok (zc_V l D ad cA tb)) (h : zz_X (zc_V l D ad cA tb) E "FrameProcessor$Frames" prog_2_method_2_code 5 zt_T 1 25 (some .int)) {k7 : Int32 → Int32 → Int32 → zz_S → Option (Int32 × zz_S)} (hk7 : ∀ (x2 : Int32) (x3 : Int32) (x4 : Int32) (st : zz_S), zz_Z (zc_V l D ad cA tb) E 5 0 0 (zz_q (zc_V l D ad cA tb) E zz_ji) (k7 x2 x3 x4 st) 7 [(0, .ref (ad 4)), (2, .int x2), (3, .int x3), (4, .int x4)] [] st) (x2 : Int32) (x3 : Int32) (x4 : Int32) (st : zz_S) : zz_Z (zc_V l D ad cA tb) E 5 0 0 (zz_q (zc_V l D ad cA tb) E zz_ji) (FR_take_7b k7 x2 x3 x4 st) 7 [(0, .ref (ad 4)), (2, .int x2), (3, .int x3), (4, .int x4)] [] st := by
  unfold FR_take_7b
  refine zz_iload h dFR_take_7 rfl ?_
  refine zz_bipush (v := 8) h dFR_take_9 zz_lb_8 ?_
  refine zz_icmp_ge h 40 dFR_take_11 rfl ?_ ?_
  · exact zz_sub (FR_take_40_w hV h _ _ _) rfl
  · refine zz_iload_n h dFR_take_14 rfl ?_
    refine zz_if_ne h 40 dFR_take_15 rfl ?_ ?_
    · refine zz_aload_n h dFR_take_18 rfl ?_
      refine zc_g_FR_memory h zi_FR zf_FR_9 dFR_take_19 ?_
      refine zz_bipush (v := 16) h dFR_take_22 zz_lb_16 ?_
      refine zz_iload h dFR_take_24 rfl ?_
      refine zz_iadd h dFR_take_26 ?_
      refine zz_callV1i h 1 rfl rfl (ME_read_c hV _ _) ME_read_k zm_FR_15 rfl rfl ⟨Nat.le_of_ble_eq_true rfl, Nat.le_of_ble_eq_true rfl⟩ (Nat.le_of_ble_eq_true rfl) dFR_take_27 (fun r_7 s_6 => ?_)
      refine zz_istore_n h dFR_take_30 (Nat.le_of_ble_eq_true rfl) ?_
      refine zz_iload h dFR_take_31 rfl ?_
      refine zz_istore_n h dFR_take_33 (Nat.le_of_ble_eq_true rfl) ?_
      refine zz_iinc h (1 : Int32) dFR_take_34 zz_li_1 rfl (Nat.le_of_ble_eq_true rfl) ?_
      refine zz_goto h 7 dFR_take_37 rfl ?_
      exact zz_sub (hk7 _ _ _ _) rfl
    · exact zz_sub (FR_take_40_w hV h _ _ _) rfl
theorem FR_take_7_w {l : Launch} {D : va_G} {ad : Nat → Nat} {cA : Nat → ClassId} {tb : Nat} {E : zz_E} (hV : zz_ok (zc_V l D ad cA tb)) (h : zz_X (zc_V l D ad cA tb) E "FrameProcessor$Frames" prog_2_method_2_code 5 zt_T 1 25 (some .int)) : ∀ (n : Nat) (x2 : Int32) (x3 : Int32) (x4 : Int32) (st : zz_S), zz_Z (zc_V l D ad cA tb) E 5 0 0 (zz_q (zc_V l D ad cA tb) E zz_ji) (FR_take_7 n x2 x3 x4 st) 7 [(0, .ref (ad 4)), (2, .int x2), (3, .int x3), (4, .int x4)] [] st
  | 0, _, _, _, _ => zz_none
  | n + 1, x2, x3, x4, st => FR_take_7b_w hV h (FR_take_7_w hV h n) x2 x3 x4 st
set_option maxRecDepth 100000 in
set_option maxHeartbeats 4000000 in
theorem FR_take_w {l : Launch} {D : va_G} {ad : Nat → Nat} {cA : Nat → ClassId} {tb : Nat} {E : zz_E} (hV : zz_ok (zc_V l D ad cA tb)) (h : zz_X (zc_V l D ad cA tb) E "FrameProcessor$Frames" prog_2_method_2_code 5 zt_T 1 25 (some .int)) (x1 : Int32) (st : zz_S) : zz_Z (zc_V l D ad cA tb) E 5 0 0 (zz_q (zc_V l D ad cA tb) E zz_ji) (FR_take_f x1 st) 0 [(0, .ref (ad 4)), (1, .int x1)] [] st := by
  unfold FR_take_f
  refine zz_iconst (v := 0) h dFR_take_0 zz_li_0 ?_
  refine zz_istore_n h dFR_take_1 (Nat.le_of_ble_eq_true rfl) ?_
  refine zz_iload_n h dFR_take_2 rfl ?_
  refine zz_istore_n h dFR_take_3 (Nat.le_of_ble_eq_true rfl) ?_
  refine zz_iload_n h dFR_take_4 rfl ?_
  refine zz_istore h dFR_take_5 (Nat.le_of_ble_eq_true rfl) ?_
  exact zz_sub (FR_take_7_w hV h _ _ _ _ _) rfl
theorem FR_take_c {l : Launch} {D : va_G} {ad : Nat → Nat} {cA : Nat → ClassId} {tb : Nat} (hV : zz_ok (zc_V l D ad cA tb)) (x1 : Int32) (st : zz_S) : zz_C (zc_V l D ad cA tb) yFR_take (Cond.code yFR_take prog_2_method_2_code 5 (some .int) :: zt_T) { frames := 1, cells := 0, slots := 0, locals := 25 } zz_ji [.ref (ad 4), .int x1] st (FR_take_f x1 st) := zz_met hV (by decide +kernel) rfl (Nat.le_of_ble_eq_true rfl) rfl (fun E h => FR_take_w hV h x1 st)
def FR_open_f (x1 : Int32) (x2 : Int32) (st : zz_S) : Option (Int32 × zz_S) := (zz_nm ((x1 >>> ((5 : Int32) &&& 31)) &&& (15 : Int32)) fun v_1 => (zz_bd (ME_read_f ((32 : Int32) + v_1) st) fun r_3 s_2 => (zz_bd (ME_read_f r_3 s_2) fun r_5 s_4 => (zz_bd (ME_read_f (r_5 + ((x1 >>> ((1 : Int32) &&& 31)) &&& (15 : Int32))) s_4) fun r_7 s_6 => (zz_bd (FR_byteAt_f r_5 r_7 s_6) fun r_9 s_8 => (zz_bd (FR_take_f (r_9 &&& (7 : Int32)) s_8) fun r_11 s_10 => (zz_bd (ME_write_f (r_11 + (0 : Int32)) x2 s_10) fun _ s_12 => (zz_bd (ME_write_f (r_11 + (1 : Int32)) v_1 s_12) fun _ s_13 => (zz_bd (ME_write_f (r_11 + (2 : Int32)) (r_7 + (1 : Int32)) s_13) fun _ s_14 => (some (r_11, s_14)))))))))))
set_option maxRecDepth 100000 in
set_option maxHeartbeats 4000000 in
theorem FR_open_w {l : Launch} {D : va_G} {ad : Nat → Nat} {cA : Nat → ClassId} {tb : Nat} {E : zz_E} (hV : zz_ok (zc_V l D ad cA tb)) (h : zz_X (zc_V l D ad cA tb) E "FrameProcessor$Frames" prog_2_method_9_code 7 zt_T 2 49 (some .int)) (x1 : Int32) (x2 : Int32) (st : zz_S) : zz_Z (zc_V l D ad cA tb) E 7 0 0 (zz_q (zc_V l D ad cA tb) E zz_ji) (FR_open_f x1 x2 st) 0 [(0, .ref (ad 4)), (1, .int x1), (2, .int x2)] [] st := by
  unfold FR_open_f
  refine zz_iload_n h dFR_open_0 rfl ?_
  refine zz_iconst (v := 5) h dFR_open_1 zz_li_5 ?_
  refine zz_ishr h dFR_open_2 ?_
  refine zz_bipush (v := 15) h dFR_open_3 zz_lb_15 ?_
  refine zz_iand h dFR_open_5 ?_
  refine zz_topi (fun v_1 => ?_)
  refine zz_istore_n h dFR_open_6 (Nat.le_of_ble_eq_true rfl) ?_
  refine zz_aload_n h dFR_open_7 rfl ?_
  refine zc_g_FR_memory h zi_FR zf_FR_9 dFR_open_8 ?_
  refine zz_aload_n h dFR_open_11 rfl ?_
  refine zc_g_FR_memory h zi_FR zf_FR_9 dFR_open_12 ?_
  refine zz_bipush (v := 32) h dFR_open_15 zz_lb_32 ?_
  refine zz_iload_n h dFR_open_17 rfl ?_
  refine zz_iadd h dFR_open_18 ?_
  refine zz_callV1i h 1 rfl rfl (ME_read_c hV _ _) ME_read_k zm_FR_15 rfl rfl ⟨Nat.le_of_ble_eq_true rfl, Nat.le_of_ble_eq_true rfl⟩ (Nat.le_of_ble_eq_true rfl) dFR_open_19 (fun r_3 s_2 => ?_)
  refine zz_callV1i h 1 rfl rfl (ME_read_c hV _ _) ME_read_k zm_FR_15 rfl rfl ⟨Nat.le_of_ble_eq_true rfl, Nat.le_of_ble_eq_true rfl⟩ (Nat.le_of_ble_eq_true rfl) dFR_open_22 (fun r_5 s_4 => ?_)
  refine zz_istore h dFR_open_25 (Nat.le_of_ble_eq_true rfl) ?_
  refine zz_aload_n h dFR_open_27 rfl ?_
  refine zc_g_FR_memory h zi_FR zf_FR_9 dFR_open_28 ?_
  refine zz_iload h dFR_open_31 rfl ?_
  refine zz_iload_n h dFR_open_33 rfl ?_
  refine zz_iconst (v := 1) h dFR_open_34 zz_li_1 ?_
  refine zz_ishr h dFR_open_35 ?_
  refine zz_bipush (v := 15) h dFR_open_36 zz_lb_15 ?_
  refine zz_iand h dFR_open_38 ?_
  refine zz_iadd h dFR_open_39 ?_
  refine zz_callV1i h 1 rfl rfl (ME_read_c hV _ _) ME_read_k zm_FR_15 rfl rfl ⟨Nat.le_of_ble_eq_true rfl, Nat.le_of_ble_eq_true rfl⟩ (Nat.le_of_ble_eq_true rfl) dFR_open_40 (fun r_7 s_6 => ?_)
  refine zz_istore h dFR_open_43 (Nat.le_of_ble_eq_true rfl) ?_
  refine zz_aload_n h dFR_open_45 rfl ?_
  refine zz_aload_n h dFR_open_46 rfl ?_
  refine zz_iload h dFR_open_47 rfl ?_
  refine zz_iload h dFR_open_49 rfl ?_
  refine zz_callV2i h 4 rfl rfl (FR_byteAt_c hV _ _ _) FR_byteAt_k zm_FR_34 rfl rfl ⟨Nat.le_of_ble_eq_true rfl, Nat.le_of_ble_eq_true rfl⟩ (Nat.le_of_ble_eq_true rfl) dFR_open_51 (fun r_9 s_8 => ?_)
  refine zz_bipush (v := 7) h dFR_open_54 zz_lb_7 ?_
  refine zz_iand h dFR_open_56 ?_
  refine zz_callV1i h 4 rfl rfl (FR_take_c hV _ _) FR_take_k zm_FR_38 rfl rfl ⟨Nat.le_of_ble_eq_true rfl, Nat.le_of_ble_eq_true rfl⟩ (Nat.le_of_ble_eq_true rfl) dFR_open_57 (fun r_11 s_10 => ?_)
  refine zz_istore h dFR_open_60 (Nat.le_of_ble_eq_true rfl) ?_
  refine zz_aload_n h dFR_open_62 rfl ?_
  refine zc_g_FR_memory h zi_FR zf_FR_9 dFR_open_63 ?_
  refine zz_iload h dFR_open_66 rfl ?_
  refine zz_iconst (v := 0) h dFR_open_68 zz_li_0 ?_
  refine zz_iadd h dFR_open_69 ?_
  refine zz_iload_n h dFR_open_70 rfl ?_
  refine zz_callV2v h 1 rfl rfl (ME_write_c hV _ _ _) ME_write_k zm_FR_25 rfl rfl ⟨Nat.le_of_ble_eq_true rfl, Nat.le_of_ble_eq_true rfl⟩ (Nat.le_of_ble_eq_true rfl) dFR_open_71 (fun _ s_12 => ?_)
  refine zz_aload_n h dFR_open_74 rfl ?_
  refine zc_g_FR_memory h zi_FR zf_FR_9 dFR_open_75 ?_
  refine zz_iload h dFR_open_78 rfl ?_
  refine zz_iconst (v := 1) h dFR_open_80 zz_li_1 ?_
  refine zz_iadd h dFR_open_81 ?_
  refine zz_iload_n h dFR_open_82 rfl ?_
  refine zz_callV2v h 1 rfl rfl (ME_write_c hV _ _ _) ME_write_k zm_FR_25 rfl rfl ⟨Nat.le_of_ble_eq_true rfl, Nat.le_of_ble_eq_true rfl⟩ (Nat.le_of_ble_eq_true rfl) dFR_open_83 (fun _ s_13 => ?_)
  refine zz_aload_n h dFR_open_86 rfl ?_
  refine zc_g_FR_memory h zi_FR zf_FR_9 dFR_open_87 ?_
  refine zz_iload h dFR_open_90 rfl ?_
  refine zz_iconst (v := 2) h dFR_open_92 zz_li_2 ?_
  refine zz_iadd h dFR_open_93 ?_
  refine zz_iload h dFR_open_94 rfl ?_
  refine zz_iconst (v := 1) h dFR_open_96 zz_li_1 ?_
  refine zz_iadd h dFR_open_97 ?_
  refine zz_callV2v h 1 rfl rfl (ME_write_c hV _ _ _) ME_write_k zm_FR_25 rfl rfl ⟨Nat.le_of_ble_eq_true rfl, Nat.le_of_ble_eq_true rfl⟩ (Nat.le_of_ble_eq_true rfl) dFR_open_98 (fun _ s_14 => ?_)
  refine zz_iload h dFR_open_101 rfl ?_
  exact zz_iret h dFR_open_103
theorem FR_open_c {l : Launch} {D : va_G} {ad : Nat → Nat} {cA : Nat → ClassId} {tb : Nat} (hV : zz_ok (zc_V l D ad cA tb)) (x1 : Int32) (x2 : Int32) (st : zz_S) : zz_C (zc_V l D ad cA tb) yFR_open (Cond.code yFR_open prog_2_method_9_code 7 (some .int) :: zt_T) { frames := 2, cells := 0, slots := 0, locals := 49 } zz_ji [.ref (ad 4), .int x1, .int x2] st (FR_open_f x1 x2 st) := zz_met hV (by decide +kernel) rfl (Nat.le_of_ble_eq_true rfl) rfl (fun E h => FR_open_w hV h x1 x2 st)
def PR_prepareChild_f (x1 : Int32) (x2 : Int32) (st : zz_S) : Option (Unit × zz_S) := (zz_nm (zz_sp st 12 (x2 &&& (7 : Int32))) fun s_1 => (zz_bd (RO_leastFree_f s_1) fun r_3 s_2 => (zz_nm (zz_qp s_2 1 r_3) fun s_4 => (zz_oc (zz_qg s_4 1) (zz_bd (ME_fail_f (8 : Int32) s_4) fun _ s_7 => (some ((), s_7))) fun t_5 => zz_gd (Nat.blt t_5 6) (zz_bd (FR_meant_f x1 s_4) fun r_9 s_8 => (zz_bd (FR_isProcedure_f r_9 s_8) fun r_11 s_10 => (if r_11 = 0 then (zz_bd (ME_fail_f (8 : Int32) s_10) fun _ s_12 => (some ((), s_12))) else (zz_bd (FR_open_f r_9 (0 : Int32) s_10) fun r_14 s_13 => (zz_nm (zz_sp s_13 11 r_14) fun s_15 => (some ((), s_15)))))))))))
set_option maxRecDepth 100000 in
set_option maxHeartbeats 4000000 in
theorem PR_prepareChild_w {l : Launch} {D : va_G} {ad : Nat → Nat} {cA : Nat → ClassId} {tb : Nat} {E : zz_E} (hV : zz_ok (zc_V l D ad cA tb)) (h : zz_X (zc_V l D ad cA tb) E "FrameProcessor$Processor" prog_5_method_17_code 4 zt_T 3 75 none) (x1 : Int32) (x2 : Int32) (st : zz_S) : zz_Z (zc_V l D ad cA tb) E 4 0 0 (zz_q (zc_V l D ad cA tb) E zz_jv) (PR_prepareChild_f x1 x2 st) 0 [(0, .ref (ad 3)), (1, .int x1), (2, .int x2)] [] st := by
  unfold PR_prepareChild_f
  refine zz_aload_n h dPR_prepareChild_0 rfl ?_
  refine zz_iload_n h dPR_prepareChild_1 rfl ?_
  refine zz_bipush (v := 7) h dPR_prepareChild_2 zz_lb_7 ?_
  refine zz_iand h dPR_prepareChild_4 ?_
  refine zc_p_PR_childPriority h zi_PR zf_PR_68 dPR_prepareChild_5 (fun s_1 => ?_)
  refine zz_aload_n h dPR_prepareChild_8 rfl ?_
  refine zz_aload_n h dPR_prepareChild_9 rfl ?_
  refine zc_g_PR_roster h zi_PR zf_PR_15 dPR_prepareChild_10 ?_
  refine zz_callV0q h 2 rfl rfl (RO_leastFree_c hV _) RO_leastFree_k zm_PR_253 rfl rfl ⟨Nat.le_of_ble_eq_true rfl, Nat.le_of_ble_eq_true rfl⟩ (Nat.le_of_ble_eq_true rfl) dPR_prepareChild_13 (fun r_3 s_2 => ?_)
  refine zc_p_PR_child r_3 h zi_PR zf_PR_57 dPR_prepareChild_16 (fun s_4 => ?_)
  refine zz_aload_n h dPR_prepareChild_19 rfl ?_
  refine zc_g_PR_child h zi_PR zf_PR_57 dPR_prepareChild_20 ?_
  refine zz_ifnonnull h 36 dPR_prepareChild_23 rfl (fun e_6 => ?_) (fun t_5 ht_5 e_6 => ?_)
  · refine zz_aload_n h dPR_prepareChild_26 rfl ?_
    refine zc_g_PR_memory h zi_PR zf_PR_9 dPR_prepareChild_27 ?_
    refine zz_bipush (v := 8) h dPR_prepareChild_30 zz_lb_8 ?_
    refine zz_callV1v h 1 rfl rfl (ME_fail_c hV _ _) ME_fail_k zm_PR_153 rfl rfl ⟨Nat.le_of_ble_eq_true rfl, Nat.le_of_ble_eq_true rfl⟩ (Nat.le_of_ble_eq_true rfl) dPR_prepareChild_32 (fun _ s_7 => ?_)
    exact zz_vret h dPR_prepareChild_35
  · refine zz_aload_n h dPR_prepareChild_36 rfl ?_
    refine zc_g_PR_frames h zi_PR zf_PR_24 dPR_prepareChild_37 ?_
    refine zz_iload_n h dPR_prepareChild_40 rfl ?_
    refine zz_callV1i h 4 rfl rfl (FR_meant_c hV _ _) FR_meant_k zm_PR_243 rfl rfl ⟨Nat.le_of_ble_eq_true rfl, Nat.le_of_ble_eq_true rfl⟩ (Nat.le_of_ble_eq_true rfl) dPR_prepareChild_41 (fun r_9 s_8 => ?_)
    refine zz_istore_n h dPR_prepareChild_44 (Nat.le_of_ble_eq_true rfl) ?_
    refine zz_iload_n h dPR_prepareChild_45 rfl ?_
    refine zz_callS1i h (FR_isProcedure_c hV _ _) FR_isProcedure_k zm_PR_246 rfl rfl ⟨Nat.le_of_ble_eq_true rfl, Nat.le_of_ble_eq_true rfl⟩ (Nat.le_of_ble_eq_true rfl) dPR_prepareChild_46 (fun r_11 s_10 => ?_)
    refine zz_if_eq h 68 dPR_prepareChild_49 rfl ?_ ?_
    · refine zz_aload_n h dPR_prepareChild_68 rfl ?_
      refine zc_g_PR_memory h zi_PR zf_PR_9 dPR_prepareChild_69 ?_
      refine zz_bipush (v := 8) h dPR_prepareChild_72 zz_lb_8 ?_
      refine zz_callV1v h 1 rfl rfl (ME_fail_c hV _ _) ME_fail_k zm_PR_153 rfl rfl ⟨Nat.le_of_ble_eq_true rfl, Nat.le_of_ble_eq_true rfl⟩ (Nat.le_of_ble_eq_true rfl) dPR_prepareChild_74 (fun _ s_12 => ?_)
      exact zz_vret h dPR_prepareChild_77
    · refine zz_aload_n h dPR_prepareChild_52 rfl ?_
      refine zz_aload_n h dPR_prepareChild_53 rfl ?_
      refine zc_g_PR_frames h zi_PR zf_PR_24 dPR_prepareChild_54 ?_
      refine zz_iload_n h dPR_prepareChild_57 rfl ?_
      refine zz_iconst (v := 0) h dPR_prepareChild_58 zz_li_0 ?_
      refine zz_callV2i h 4 rfl rfl (FR_open_c hV _ _ _) FR_open_k zm_PR_250 rfl rfl ⟨Nat.le_of_ble_eq_true rfl, Nat.le_of_ble_eq_true rfl⟩ (Nat.le_of_ble_eq_true rfl) dPR_prepareChild_59 (fun r_14 s_13 => ?_)
      refine zc_p_PR_childFrame h zi_PR zf_PR_64 dPR_prepareChild_62 (fun s_15 => ?_)
      refine zz_goto h 77 dPR_prepareChild_65 rfl ?_
      exact zz_vret h dPR_prepareChild_77
theorem PR_prepareChild_c {l : Launch} {D : va_G} {ad : Nat → Nat} {cA : Nat → ClassId} {tb : Nat} (hV : zz_ok (zc_V l D ad cA tb)) (x1 : Int32) (x2 : Int32) (st : zz_S) : zz_C (zc_V l D ad cA tb) yPR_prepareChild (Cond.code yPR_prepareChild prog_5_method_17_code 4 none :: zt_T) { frames := 3, cells := 0, slots := 0, locals := 75 } zz_jv [.ref (ad 3), .int x1, .int x2] st (PR_prepareChild_f x1 x2 st) := zz_met hV (by decide +kernel) rfl (Nat.le_of_ble_eq_true rfl) rfl (fun E h => PR_prepareChild_w hV h x1 x2 st)
def ME_hasFailed_f (st : zz_S) : Option (Int32 × zz_S) := (if (zz_sg st 1) = 0 then (some ((0 : Int32), st)) else (some ((1 : Int32), st)))
set_option maxRecDepth 100000 in
set_option maxHeartbeats 4000000 in
theorem ME_hasFailed_w {l : Launch} {D : va_G} {ad : Nat → Nat} {cA : Nat → ClassId} {tb : Nat} {E : zz_E} (hV : zz_ok (zc_V l D ad cA tb)) (h : zz_X (zc_V l D ad cA tb) E "FrameProcessor$Memory" prog_4_method_16_code 1 zt_T 0 0 (some .boolean)) (st : zz_S) : zz_Z (zc_V l D ad cA tb) E 1 0 0 (zz_q (zc_V l D ad cA tb) E zz_ji) (ME_hasFailed_f  st) 0 [(0, .ref (ad 1))] [] st := by
  unfold ME_hasFailed_f
  refine zz_aload_n h dME_hasFailed_0 rfl ?_
  refine zc_g_ME_fault h zi_ME zf_ME_44 dME_hasFailed_1 ?_
  refine zz_if_eq h 11 dME_hasFailed_4 rfl ?_ ?_
  · refine zz_iconst (v := 0) h dME_hasFailed_11 zz_li_0 ?_
    exact zz_zret h dME_hasFailed_12 (by decide +kernel)
  · refine zz_iconst (v := 1) h dME_hasFailed_7 zz_li_1 ?_
    refine zz_goto h 12 dME_hasFailed_8 rfl ?_
    exact zz_zret h dME_hasFailed_12 (by decide +kernel)
theorem ME_hasFailed_c {l : Launch} {D : va_G} {ad : Nat → Nat} {cA : Nat → ClassId} {tb : Nat} (hV : zz_ok (zc_V l D ad cA tb)) (st : zz_S) : zz_C (zc_V l D ad cA tb) yME_hasFailed (Cond.code yME_hasFailed prog_4_method_16_code 1 (some .boolean) :: zt_T) { frames := 0, cells := 0, slots := 0, locals := 0 } zz_ji [.ref (ad 1)] st (ME_hasFailed_f  st) := zz_met hV (by decide +kernel) rfl (Nat.le_of_ble_eq_true rfl) rfl (fun E h => ME_hasFailed_w hV h  st)
def ME_undo_7b (k7 : Int32 → zz_S → Option (Unit × zz_S)) (x1 : Int32) (st : zz_S) : Option (Unit × zz_S) := (if x1 < 0 then (zz_nm (zz_sp st 0 (0 : Int32)) fun s_1 => (some ((), s_1))) else (zz_gd (zz_in x1 16) (zz_gd (zz_in x1 16) (zz_nm (zz_ag st 4 x1.toNatClampNeg) fun v_2 => (zz_gd (zz_in v_2 3072) (zz_nm (zz_ap st 0 v_2.toNatClampNeg (zz_ag st 5 x1.toNatClampNeg)) fun s_3 => (k7 (x1 + (-1 : Int32)) s_3)))))))
def ME_undo_7 : Nat → Int32 → zz_S → Option (Unit × zz_S)
  | 0 => fun _ _ => none
  | n + 1 => ME_undo_7b (ME_undo_7 n)
def ME_undo_f (st : zz_S) : Option (Unit × zz_S) := (zz_nm ((zz_sg st 0) - (1 : Int32)) fun v_4 => (ME_undo_7 18 v_4 st))
set_option maxRecDepth 100000 in
set_option maxHeartbeats 4000000 in
theorem ME_undo_7b_w {l : Launch} {D : va_G} {ad : Nat → Nat} {cA : Nat → ClassId} {tb : Nat} {E : zz_E} (hV : zz_ok (zc_V l D ad cA tb)) (h : zz_X (zc_V l D ad cA tb) E "FrameProcessor$Memory" prog_4_method_21_code 2 zt_T 0 0 none) {k7 : Int32 → zz_S → Option (Unit × zz_S)} (hk7 : ∀ (x1 : Int32) (st : zz_S), zz_Z (zc_V l D ad cA tb) E 2 0 0 (zz_q (zc_V l D ad cA tb) E zz_jv) (k7 x1 st) 7 [(0, .ref (ad 1)), (1, .int x1)] [] st) (x1 : Int32) (st : zz_S) : zz_Z (zc_V l D ad cA tb) E 2 0 0 (zz_q (zc_V l D ad cA tb) E zz_jv) (ME_undo_7b k7 x1 st) 7 [(0, .ref (ad 1)), (1, .int x1)] [] st := by
  unfold ME_undo_7b
  refine zz_iload_n h dME_undo_7 rfl ?_
  refine zz_if_lt h 34 dME_undo_8 rfl ?_ ?_
  · refine zz_aload_n h dME_undo_34 rfl ?_
    refine zz_iconst (v := 0) h dME_undo_35 zz_li_0 ?_
    refine zc_p_ME_writes h zi_ME zf_ME_40 dME_undo_36 (fun s_1 => ?_)
    exact zz_vret h dME_undo_39
  · refine zz_aload_n h dME_undo_11 rfl ?_
    refine zc_g_ME_words h zi_ME zf_ME_11 dME_undo_12 ?_
    refine zz_aload_n h dME_undo_15 rfl ?_
    refine zc_g_ME_writtenPlaces h zi_ME zf_ME_25 dME_undo_16 ?_
    refine zz_iload_n h dME_undo_19 rfl ?_
    refine zc_ld_11 h dME_undo_20 ?_
    refine zz_aload_n h dME_undo_21 rfl ?_
    refine zc_g_ME_formerWords h zi_ME zf_ME_28 dME_undo_22 ?_
    refine zz_iload_n h dME_undo_25 rfl ?_
    refine zc_ld_12 h dME_undo_26 ?_
    refine zz_top2 (fun v_2 => ?_)
    refine zc_st_7 h dME_undo_27 (fun s_3 => ?_)
    refine zz_iinc h (-1 : Int32) dME_undo_28 zz_li_m1 rfl (Nat.le_of_ble_eq_true rfl) ?_
    refine zz_goto h 7 dME_undo_31 rfl ?_
    exact zz_sub (hk7 _ _) rfl
theorem ME_undo_7_w {l : Launch} {D : va_G} {ad : Nat → Nat} {cA : Nat → ClassId} {tb : Nat} {E : zz_E} (hV : zz_ok (zc_V l D ad cA tb)) (h : zz_X (zc_V l D ad cA tb) E "FrameProcessor$Memory" prog_4_method_21_code 2 zt_T 0 0 none) : ∀ (n : Nat) (x1 : Int32) (st : zz_S), zz_Z (zc_V l D ad cA tb) E 2 0 0 (zz_q (zc_V l D ad cA tb) E zz_jv) (ME_undo_7 n x1 st) 7 [(0, .ref (ad 1)), (1, .int x1)] [] st
  | 0, _, _ => zz_none
  | n + 1, x1, st => ME_undo_7b_w hV h (ME_undo_7_w hV h n) x1 st
set_option maxRecDepth 100000 in
set_option maxHeartbeats 4000000 in
theorem ME_undo_w {l : Launch} {D : va_G} {ad : Nat → Nat} {cA : Nat → ClassId} {tb : Nat} {E : zz_E} (hV : zz_ok (zc_V l D ad cA tb)) (h : zz_X (zc_V l D ad cA tb) E "FrameProcessor$Memory" prog_4_method_21_code 2 zt_T 0 0 none) (st : zz_S) : zz_Z (zc_V l D ad cA tb) E 2 0 0 (zz_q (zc_V l D ad cA tb) E zz_jv) (ME_undo_f  st) 0 [(0, .ref (ad 1))] [] st := by
  unfold ME_undo_f
  refine zz_aload_n h dME_undo_0 rfl ?_
  refine zc_g_ME_writes h zi_ME zf_ME_40 dME_undo_1 ?_
  refine zz_iconst (v := 1) h dME_undo_4 zz_li_1 ?_
  refine zz_isub h dME_undo_5 ?_
  refine zz_topi (fun v_4 => ?_)
  refine zz_istore_n h dME_undo_6 (Nat.le_of_ble_eq_true rfl) ?_
  exact zz_sub (ME_undo_7_w hV h _ _ _) rfl
theorem ME_undo_c {l : Launch} {D : va_G} {ad : Nat → Nat} {cA : Nat → ClassId} {tb : Nat} (hV : zz_ok (zc_V l D ad cA tb)) (st : zz_S) : zz_C (zc_V l D ad cA tb) yME_undo (Cond.code yME_undo prog_4_method_21_code 2 none :: zt_T) { frames := 0, cells := 0, slots := 0, locals := 0 } zz_jv [.ref (ad 1)] st (ME_undo_f  st) := zz_met hV (by decide +kernel) rfl (Nat.le_of_ble_eq_true rfl) rfl (fun E h => ME_undo_w hV h  st)
def RO_nextChange_f (st : zz_S) : Option (Int32 × zz_S) := (zz_nm (zz_sp st 2 ((zz_sg st 2) + (1 : Int32))) fun s_1 => (some ((zz_sg s_1 2), s_1)))
set_option maxRecDepth 100000 in
set_option maxHeartbeats 4000000 in
theorem RO_nextChange_w {l : Launch} {D : va_G} {ad : Nat → Nat} {cA : Nat → ClassId} {tb : Nat} {E : zz_E} (hV : zz_ok (zc_V l D ad cA tb)) (h : zz_X (zc_V l D ad cA tb) E "FrameProcessor$Roster" prog_6_method_7_code 1 zt_T 0 0 (some .int)) (st : zz_S) : zz_Z (zc_V l D ad cA tb) E 1 0 0 (zz_q (zc_V l D ad cA tb) E zz_ji) (RO_nextChange_f  st) 0 [(0, .ref (ad 2))] [] st := by
  unfold RO_nextChange_f
  refine zz_aload_n h dRO_nextChange_0 rfl ?_
  refine zz_dup h dRO_nextChange_1 rfl ?_
  refine zc_g_RO_changes h zi_RO zf_RO_38 dRO_nextChange_2 ?_
  refine zz_iconst (v := 1) h dRO_nextChange_5 zz_li_1 ?_
  refine zz_iadd h dRO_nextChange_6 ?_
  refine zc_p_RO_changes h zi_RO zf_RO_38 dRO_nextChange_7 (fun s_1 => ?_)
  refine zz_aload_n h dRO_nextChange_10 rfl ?_
  refine zc_g_RO_changes h zi_RO zf_RO_38 dRO_nextChange_11 ?_
  exact zz_iret h dRO_nextChange_14
theorem RO_nextChange_c {l : Launch} {D : va_G} {ad : Nat → Nat} {cA : Nat → ClassId} {tb : Nat} (hV : zz_ok (zc_V l D ad cA tb)) (st : zz_S) : zz_C (zc_V l D ad cA tb) yRO_nextChange (Cond.code yRO_nextChange prog_6_method_7_code 1 (some .int) :: zt_T) { frames := 0, cells := 0, slots := 0, locals := 0 } zz_ji [.ref (ad 2)] st (RO_nextChange_f  st) := zz_met hV (by decide +kernel) rfl (Nat.le_of_ble_eq_true rfl) rfl (fun E h => RO_nextChange_w hV h  st)
def TA_enter_f (t0 : Nat) (x1 : Int32) (x2 : Int32) (st : zz_S) : Option (Unit × zz_S) := (zz_nm (zz_ap st 7 t0 x1) fun s_1 => (zz_nm (zz_ap s_1 14 t0 x2) fun s_2 => (zz_nm (zz_ap s_2 11 t0 (-1 : Int32)) fun s_3 => (zz_nm (zz_ap s_3 12 t0 (0 : Int32)) fun s_4 => (zz_nm (zz_ap s_4 13 t0 (0 : Int32)) fun s_5 => (some ((), s_5)))))))
set_option maxRecDepth 100000 in
set_option maxHeartbeats 4000000 in
theorem TA_enter_w {l : Launch} {D : va_G} {ad : Nat → Nat} {cA : Nat → ClassId} {tb : Nat} {E : zz_E} (hV : zz_ok (zc_V l D ad cA tb)) (h : zz_X (zc_V l D ad cA tb) E "FrameProcessor$Task" prog_7_method_3_code 3 zt_T 0 0 none) (t0 : Nat) (ht0 : t0 < 6) (x1 : Int32) (x2 : Int32) (st : zz_S) : zz_Z (zc_V l D ad cA tb) E 3 0 0 (zz_q (zc_V l D ad cA tb) E zz_jv) (TA_enter_f t0 x1 x2 st) 0 [(0, .ref (ad (15 + t0))), (1, .int x1), (2, .int x2)] [] st := by
  unfold TA_enter_f
  refine zz_aload_n h dTA_enter_0 rfl ?_
  refine zz_iload_n h dTA_enter_1 rfl ?_
  refine zc_p_TA_state ht0 h zi_TA zf_TA_35 dTA_enter_2 (fun s_1 => ?_)
  refine zz_aload_n h dTA_enter_5 rfl ?_
  refine zz_iload_n h dTA_enter_6 rfl ?_
  refine zc_p_TA_since ht0 h zi_TA zf_TA_38 dTA_enter_7 (fun s_2 => ?_)
  refine zz_aload_n h dTA_enter_10 rfl ?_
  refine zz_iconst (v := -1) h dTA_enter_11 zz_li_m1 ?_
  refine zc_p_TA_address ht0 h zi_TA zf_TA_19 dTA_enter_12 (fun s_3 => ?_)
  refine zz_aload_n h dTA_enter_15 rfl ?_
  refine zz_iconst (v := 0) h dTA_enter_16 zz_li_0 ?_
  refine zc_p_TA_timeout ht0 h zi_TA zf_TA_41 dTA_enter_17 (fun s_4 => ?_)
  refine zz_aload_n h dTA_enter_20 rfl ?_
  refine zz_iconst (v := 0) h dTA_enter_21 zz_li_0 ?_
  refine zc_p_TA_fault ht0 h zi_TA zf_TA_44 dTA_enter_22 (fun s_5 => ?_)
  exact zz_vret h dTA_enter_25
theorem TA_enter_c {l : Launch} {D : va_G} {ad : Nat → Nat} {cA : Nat → ClassId} {tb : Nat} (hV : zz_ok (zc_V l D ad cA tb)) (t0 : Nat) (ht0 : t0 < 6) (x1 : Int32) (x2 : Int32) (st : zz_S) : zz_C (zc_V l D ad cA tb) yTA_enter (Cond.code yTA_enter prog_7_method_3_code 3 none :: zt_T) { frames := 0, cells := 0, slots := 0, locals := 0 } zz_jv [.ref (ad (15 + t0)), .int x1, .int x2] st (TA_enter_f t0 x1 x2 st) := zz_met hV (by decide +kernel) rfl (Nat.le_of_ble_eq_true rfl) rfl (fun E h => TA_enter_w hV h t0 ht0 x1 x2 st)
def RO_makeReady_f (t1 : Nat) (st : zz_S) : Option (Unit × zz_S) := (zz_bd (RO_nextChange_f st) fun r_2 s_1 => (zz_bd (TA_enter_f t1 (1 : Int32) r_2 s_1) fun _ s_3 => (some ((), s_3))))
set_option maxRecDepth 100000 in
set_option maxHeartbeats 4000000 in
theorem RO_makeReady_w {l : Launch} {D : va_G} {ad : Nat → Nat} {cA : Nat → ClassId} {tb : Nat} {E : zz_E} (hV : zz_ok (zc_V l D ad cA tb)) (h : zz_X (zc_V l D ad cA tb) E "FrameProcessor$Roster" prog_6_method_8_code 2 zt_T 1 22 none) (t1 : Nat) (ht1 : t1 < 6) (st : zz_S) : zz_Z (zc_V l D ad cA tb) E 2 0 0 (zz_q (zc_V l D ad cA tb) E zz_jv) (RO_makeReady_f t1 st) 0 [(0, .ref (ad 2)), (1, .ref (ad (15 + t1)))] [] st := by
  unfold RO_makeReady_f
  refine zz_aload_n h dRO_makeReady_0 rfl ?_
  refine zz_iconst (v := 1) h dRO_makeReady_1 zz_li_1 ?_
  refine zz_aload_n h dRO_makeReady_2 rfl ?_
  refine zz_callV0i h 2 rfl rfl (RO_nextChange_c hV _) RO_nextChange_k zm_RO_41 rfl rfl ⟨Nat.le_of_ble_eq_true rfl, Nat.le_of_ble_eq_true rfl⟩ (Nat.le_of_ble_eq_true rfl) dRO_makeReady_3 (fun r_2 s_1 => ?_)
  refine zz_callV2v h (15 + t1) (zc_at ht1) rfl (TA_enter_c hV _ ht1 _ _ _) TA_enter_k zm_RO_45 rfl rfl ⟨Nat.le_of_ble_eq_true rfl, Nat.le_of_ble_eq_true rfl⟩ (Nat.le_of_ble_eq_true rfl) dRO_makeReady_6 (fun _ s_3 => ?_)
  exact zz_vret h dRO_makeReady_9
theorem RO_makeReady_c {l : Launch} {D : va_G} {ad : Nat → Nat} {cA : Nat → ClassId} {tb : Nat} (hV : zz_ok (zc_V l D ad cA tb)) (t1 : Nat) (ht1 : t1 < 6) (st : zz_S) : zz_C (zc_V l D ad cA tb) yRO_makeReady (Cond.code yRO_makeReady prog_6_method_8_code 2 none :: zt_T) { frames := 1, cells := 0, slots := 0, locals := 22 } zz_jv [.ref (ad 2), .ref (ad (15 + t1))] st (RO_makeReady_f t1 st) := zz_met hV (by decide +kernel) rfl (Nat.le_of_ble_eq_true rfl) rfl (fun E h => RO_makeReady_w hV h t1 ht1 st)
