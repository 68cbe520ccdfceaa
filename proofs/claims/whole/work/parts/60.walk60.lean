def MO_thrown_f (st : zz_S) : Option (Int32 × zz_S) := (some ((zz_sg st 0), st))
set_option maxRecDepth 100000 in
set_option maxHeartbeats 4000000 in
theorem MO_thrown_w {l : Launch} {D : va_G} {ad : Nat → Nat} {cA : Nat → ClassId} {tb : Nat} {E : zz_E} (hV : zz_ok (zm_V l D ad cA tb)) (h : zz_X (zm_V l D ad cA tb) E "FrameProcessorModel" prog_10_method_2_code 1 zt_T 0 0 (some .int)) (st : zz_S) : zz_Z (zm_V l D ad cA tb) E 1 0 0 (zz_q (zm_V l D ad cA tb) E zz_ji) (MO_thrown_f  st) 0 [(0, .ref (ad 0))] [] st := by
  unfold MO_thrown_f
  refine zz_aload_n h dMO_thrown_0 rfl ?_
  refine zm_g_MO_thrown h zi_MO zf_MO_63 dMO_thrown_1 ?_
  exact zz_iret h dMO_thrown_4
theorem MO_thrown_c {l : Launch} {D : va_G} {ad : Nat → Nat} {cA : Nat → ClassId} {tb : Nat} (hV : zz_ok (zm_V l D ad cA tb)) (st : zz_S) : zz_C (zm_V l D ad cA tb) yMO_thrown (Cond.code yMO_thrown prog_10_method_2_code 1 (some .int) :: zt_T) { frames := 0, cells := 0, slots := 0, locals := 0 } zz_ji [.ref (ad 0)] st (MO_thrown_f  st) := zz_met hV (by decide +kernel) rfl (Nat.le_of_ble_eq_true rfl) rfl (fun E h => MO_thrown_w hV h  st)
def MO_first_75 (k4 : Int32 → Int32 → zz_S → Option (Int32 × zz_S)) (x1 : Int32) (x2 : Int32) (st : zz_S) : Option (Int32 × zz_S) := (k4 x1 (x2 + (1 : Int32)) st)
def MO_first_73 (k4 : Int32 → Int32 → zz_S → Option (Int32 × zz_S)) (x2 : Int32) (st : zz_S) : Option (Int32 × zz_S) := (MO_first_75 k4 x2 x2 st)
def MO_first_4b (k4 : Int32 → Int32 → zz_S → Option (Int32 × zz_S)) (x1 : Int32) (x2 : Int32) (st : zz_S) : Option (Int32 × zz_S) := (if (6 : Int32) ≤ x2 then (some (x1, st)) else (zz_gd (zz_in x2 6) (if (zz_ag st 5 x2.toNatClampNeg) = (1 : Int32) then (if x1 < 0 then (MO_first_73 k4 x2 st) else (zz_gd (zz_in x2 6) (zz_gd (zz_in x1 6) (if (zz_ag st 6 x1.toNatClampNeg) < (zz_ag st 6 x2.toNatClampNeg) then (MO_first_73 k4 x2 st) else (zz_gd (zz_in x2 6) (zz_gd (zz_in x1 6) (if (zz_ag st 6 x2.toNatClampNeg) = (zz_ag st 6 x1.toNatClampNeg) then (zz_gd (zz_in x2 6) (zz_gd (zz_in x1 6) (if 0 ≤ (lg_cmp (zz_lg st 1 x2.toNatClampNeg) (zz_lg st 1 x1.toNatClampNeg)) then (MO_first_75 k4 x1 x2 st) else (MO_first_73 k4 x2 st)))) else (MO_first_75 k4 x1 x2 st)))))))) else (MO_first_75 k4 x1 x2 st))))
def MO_first_4 : Nat → Int32 → Int32 → zz_S → Option (Int32 × zz_S)
  | 0 => fun _ _ _ => none
  | n + 1 => MO_first_4b (MO_first_4 n)
def MO_first_f (st : zz_S) : Option (Int32 × zz_S) := (MO_first_4 10 (-1 : Int32) (0 : Int32) st)
set_option maxRecDepth 100000 in
set_option maxHeartbeats 4000000 in
theorem MO_first_75_w {l : Launch} {D : va_G} {ad : Nat → Nat} {cA : Nat → ClassId} {tb : Nat} {E : zz_E} (hV : zz_ok (zm_V l D ad cA tb)) (h : zz_X (zm_V l D ad cA tb) E "FrameProcessorModel" prog_10_method_28_code 3 zt_T 0 0 (some .int)) {k4 : Int32 → Int32 → zz_S → Option (Int32 × zz_S)} (hk4 : ∀ (x1 : Int32) (x2 : Int32) (st : zz_S), zz_Z (zm_V l D ad cA tb) E 3 0 0 (zz_q (zm_V l D ad cA tb) E zz_ji) (k4 x1 x2 st) 4 [(0, .ref (ad 0)), (1, .int x1), (2, .int x2)] [] st) (x1 : Int32) (x2 : Int32) (st : zz_S) : zz_Z (zm_V l D ad cA tb) E 3 0 0 (zz_q (zm_V l D ad cA tb) E zz_ji) (MO_first_75 k4 x1 x2 st) 75 [(0, .ref (ad 0)), (1, .int x1), (2, .int x2)] [] st := by
  unfold MO_first_75
  refine zz_iinc h (1 : Int32) dMO_first_75 zz_li_1 rfl (Nat.le_of_ble_eq_true rfl) ?_
  refine zz_goto h 4 dMO_first_78 rfl ?_
  exact zz_sub (hk4 _ _ _) rfl
set_option maxRecDepth 100000 in
set_option maxHeartbeats 4000000 in
theorem MO_first_73_w {l : Launch} {D : va_G} {ad : Nat → Nat} {cA : Nat → ClassId} {tb : Nat} {E : zz_E} (hV : zz_ok (zm_V l D ad cA tb)) (h : zz_X (zm_V l D ad cA tb) E "FrameProcessorModel" prog_10_method_28_code 3 zt_T 0 0 (some .int)) {k4 : Int32 → Int32 → zz_S → Option (Int32 × zz_S)} (hk4 : ∀ (x1 : Int32) (x2 : Int32) (st : zz_S), zz_Z (zm_V l D ad cA tb) E 3 0 0 (zz_q (zm_V l D ad cA tb) E zz_ji) (k4 x1 x2 st) 4 [(0, .ref (ad 0)), (1, .int x1), (2, .int x2)] [] st) (x2 : Int32) (st : zz_S) : zz_Z (zm_V l D ad cA tb) E 3 0 0 (zz_q (zm_V l D ad cA tb) E zz_ji) (MO_first_73 k4 x2 st) 73 [(0, .ref (ad 0)), (2, .int x2)] [] st := by
  unfold MO_first_73
  refine zz_iload_n h dMO_first_73 rfl ?_
  refine zz_istore_n h dMO_first_74 (Nat.le_of_ble_eq_true rfl) ?_
  exact zz_sub (MO_first_75_w hV h hk4 _ _ _) rfl
set_option maxRecDepth 100000 in
set_option maxHeartbeats 4000000 in
theorem MO_first_4b_w {l : Launch} {D : va_G} {ad : Nat → Nat} {cA : Nat → ClassId} {tb : Nat} {E : zz_E} (hV : zz_ok (zm_V l D ad cA tb)) (h : zz_X (zm_V l D ad cA tb) E "FrameProcessorModel" prog_10_method_28_code 3 zt_T 0 0 (some .int)) {k4 : Int32 → Int32 → zz_S → Option (Int32 × zz_S)} (hk4 : ∀ (x1 : Int32) (x2 : Int32) (st : zz_S), zz_Z (zm_V l D ad cA tb) E 3 0 0 (zz_q (zm_V l D ad cA tb) E zz_ji) (k4 x1 x2 st) 4 [(0, .ref (ad 0)), (1, .int x1), (2, .int x2)] [] st) (x1 : Int32) (x2 : Int32) (st : zz_S) : zz_Z (zm_V l D ad cA tb) E 3 0 0 (zz_q (zm_V l D ad cA tb) E zz_ji) (MO_first_4b k4 x1 x2 st) 4 [(0, .ref (ad 0)), (1, .int x1), (2, .int x2)] [] st := by
  unfold MO_first_4b
  refine zz_iload_n h dMO_first_4 rfl ?_
  refine zz_bipush (v := 6) h dMO_first_5 zz_lb_6 ?_
  refine zz_icmp_ge h 81 dMO_first_7 rfl ?_ ?_
  · refine zz_iload_n h dMO_first_81 rfl ?_
    exact zz_iret h dMO_first_82
  · refine zz_aload_n h dMO_first_10 rfl ?_
    refine zm_g_MO_state h zi_MO zf_MO_23 dMO_first_11 ?_
    refine zz_iload_n h dMO_first_14 rfl ?_
    refine zm_ld_5 h dMO_first_15 ?_
    refine zz_iconst (v := 1) h dMO_first_16 zz_li_1 ?_
    refine zz_icmp_eq h 23 dMO_first_17 rfl ?_ ?_
    · refine zz_iload_n h dMO_first_23 rfl ?_
      refine zz_if_lt h 73 dMO_first_24 rfl ?_ ?_
      · exact zz_sub (MO_first_73_w hV h hk4 _ _) rfl
      · refine zz_aload_n h dMO_first_27 rfl ?_
        refine zm_g_MO_priority h zi_MO zf_MO_26 dMO_first_28 ?_
        refine zz_iload_n h dMO_first_31 rfl ?_
        refine zm_ld_6 h dMO_first_32 ?_
        refine zz_aload_n h dMO_first_33 rfl ?_
        refine zm_g_MO_priority h zi_MO zf_MO_26 dMO_first_34 ?_
        refine zz_iload_n h dMO_first_37 rfl ?_
        refine zm_ld_6 h dMO_first_38 ?_
        refine zz_icmp_gt h 73 dMO_first_39 rfl ?_ ?_
        · exact zz_sub (MO_first_73_w hV h hk4 _ _) rfl
        · refine zz_aload_n h dMO_first_42 rfl ?_
          refine zm_g_MO_priority h zi_MO zf_MO_26 dMO_first_43 ?_
          refine zz_iload_n h dMO_first_46 rfl ?_
          refine zm_ld_6 h dMO_first_47 ?_
          refine zz_aload_n h dMO_first_48 rfl ?_
          refine zm_g_MO_priority h zi_MO zf_MO_26 dMO_first_49 ?_
          refine zz_iload_n h dMO_first_52 rfl ?_
          refine zm_ld_6 h dMO_first_53 ?_
          refine zz_icmp_ne h 75 dMO_first_54 rfl ?_ ?_
          · refine zz_aload_n h dMO_first_57 rfl ?_
            refine zm_g_MO_since h zi_MO zf_MO_47 dMO_first_58 ?_
            refine zz_iload_n h dMO_first_61 rfl ?_
            refine zm_ld_13 h dMO_first_62 ?_
            refine zz_aload_n h dMO_first_63 rfl ?_
            refine zm_g_MO_since h zi_MO zf_MO_47 dMO_first_64 ?_
            refine zz_iload_n h dMO_first_67 rfl ?_
            refine zm_ld_13 h dMO_first_68 ?_
            refine zz_lcmp h dMO_first_69 ?_
            refine zz_if_ge h 75 dMO_first_70 rfl ?_ ?_
            · exact zz_sub (MO_first_75_w hV h hk4 _ _ _) rfl
            · exact zz_sub (MO_first_73_w hV h hk4 _ _) rfl
          · exact zz_sub (MO_first_75_w hV h hk4 _ _ _) rfl
    · refine zz_goto h 75 dMO_first_20 rfl ?_
      exact zz_sub (MO_first_75_w hV h hk4 _ _ _) rfl
theorem MO_first_4_w {l : Launch} {D : va_G} {ad : Nat → Nat} {cA : Nat → ClassId} {tb : Nat} {E : zz_E} (hV : zz_ok (zm_V l D ad cA tb)) (h : zz_X (zm_V l D ad cA tb) E "FrameProcessorModel" prog_10_method_28_code 3 zt_T 0 0 (some .int)) : ∀ (n : Nat) (x1 : Int32) (x2 : Int32) (st : zz_S), zz_Z (zm_V l D ad cA tb) E 3 0 0 (zz_q (zm_V l D ad cA tb) E zz_ji) (MO_first_4 n x1 x2 st) 4 [(0, .ref (ad 0)), (1, .int x1), (2, .int x2)] [] st
  | 0, _, _, _ => zz_none
  | n + 1, x1, x2, st => MO_first_4b_w hV h (MO_first_4_w hV h n) x1 x2 st
set_option maxRecDepth 100000 in
set_option maxHeartbeats 4000000 in
theorem MO_first_w {l : Launch} {D : va_G} {ad : Nat → Nat} {cA : Nat → ClassId} {tb : Nat} {E : zz_E} (hV : zz_ok (zm_V l D ad cA tb)) (h : zz_X (zm_V l D ad cA tb) E "FrameProcessorModel" prog_10_method_28_code 3 zt_T 0 0 (some .int)) (st : zz_S) : zz_Z (zm_V l D ad cA tb) E 3 0 0 (zz_q (zm_V l D ad cA tb) E zz_ji) (MO_first_f  st) 0 [(0, .ref (ad 0))] [] st := by
  unfold MO_first_f
  refine zz_iconst (v := -1) h dMO_first_0 zz_li_m1 ?_
  refine zz_istore_n h dMO_first_1 (Nat.le_of_ble_eq_true rfl) ?_
  refine zz_iconst (v := 0) h dMO_first_2 zz_li_0 ?_
  refine zz_istore_n h dMO_first_3 (Nat.le_of_ble_eq_true rfl) ?_
  exact zz_sub (MO_first_4_w hV h _ _ _ _) rfl
theorem MO_first_c {l : Launch} {D : va_G} {ad : Nat → Nat} {cA : Nat → ClassId} {tb : Nat} (hV : zz_ok (zm_V l D ad cA tb)) (st : zz_S) : zz_C (zm_V l D ad cA tb) yMO_first (Cond.code yMO_first prog_10_method_28_code 3 (some .int) :: zt_T) { frames := 0, cells := 0, slots := 0, locals := 0 } zz_ji [.ref (ad 0)] st (MO_first_f  st) := zz_met hV (by decide +kernel) rfl (Nat.le_of_ble_eq_true rfl) rfl (fun E h => MO_first_w hV h  st)
def MO_at_f (x1 : Int32) (st : zz_S) : Option (Int32 × zz_S) := (zz_nm (x1 &&& (4095 : Int32)) fun v_1 => (zz_nm (v_1 / (256 : Int32)) fun v_2 => (zz_gd (zz_in v_2 16) (if 0 ≤ (zz_ag st 1 v_2.toNatClampNeg) then (zz_nm (v_1 / (256 : Int32)) fun v_3 => (zz_gd (zz_in v_3 16) (some ((((256 : Int32) * (zz_ag st 1 v_3.toNatClampNeg)) + (zz_rem v_1 (256 : Int32))), st)))) else (some ((-1 : Int32), st))))))
set_option maxRecDepth 100000 in
set_option maxHeartbeats 4000000 in
theorem MO_at_w {l : Launch} {D : va_G} {ad : Nat → Nat} {cA : Nat → ClassId} {tb : Nat} {E : zz_E} (hV : zz_ok (zm_V l D ad cA tb)) (h : zz_X (zm_V l D ad cA tb) E "FrameProcessorModel" prog_10_method_4_code 3 zt_T 0 0 (some .int)) (x1 : Int32) (st : zz_S) : zz_Z (zm_V l D ad cA tb) E 3 0 0 (zz_q (zm_V l D ad cA tb) E zz_ji) (MO_at_f x1 st) 0 [(0, .ref (ad 0)), (1, .int x1)] [] st := by
  unfold MO_at_f
  refine zz_iload_n h dMO_at_0 rfl ?_
  refine zz_sipush (v := 4095) h dMO_at_1 zz_ls_4095 ?_
  refine zz_iand h dMO_at_4 ?_
  refine zz_topi (fun v_1 => ?_)
  refine zz_istore_n h dMO_at_5 (Nat.le_of_ble_eq_true rfl) ?_
  refine zz_aload_n h dMO_at_6 rfl ?_
  refine zm_g_MO_map h zi_MO zf_MO_7 dMO_at_7 ?_
  refine zz_iload_n h dMO_at_10 rfl ?_
  refine zz_sipush (v := 256) h dMO_at_11 zz_ls_256 ?_
  refine zz_idiv h dMO_at_14 (by decide) ?_
  refine zz_topi (fun v_2 => ?_)
  refine zm_ld_1 h dMO_at_15 ?_
  refine zz_if_ge h 23 dMO_at_16 rfl ?_ ?_
  · refine zz_sipush (v := 256) h dMO_at_23 zz_ls_256 ?_
    refine zz_aload_n h dMO_at_26 rfl ?_
    refine zm_g_MO_map h zi_MO zf_MO_7 dMO_at_27 ?_
    refine zz_iload_n h dMO_at_30 rfl ?_
    refine zz_sipush (v := 256) h dMO_at_31 zz_ls_256 ?_
    refine zz_idiv h dMO_at_34 (by decide) ?_
    refine zz_topi (fun v_3 => ?_)
    refine zm_ld_1 h dMO_at_35 ?_
    refine zz_imul h dMO_at_36 ?_
    refine zz_iload_n h dMO_at_37 rfl ?_
    refine zz_sipush (v := 256) h dMO_at_38 zz_ls_256 ?_
    refine zz_irem h dMO_at_41 (by decide) ?_
    refine zz_iadd h dMO_at_42 ?_
    exact zz_iret h dMO_at_43
  · refine zz_iconst (v := -1) h dMO_at_19 zz_li_m1 ?_
    refine zz_goto h 43 dMO_at_20 rfl ?_
    exact zz_iret h dMO_at_43
theorem MO_at_c {l : Launch} {D : va_G} {ad : Nat → Nat} {cA : Nat → ClassId} {tb : Nat} (hV : zz_ok (zm_V l D ad cA tb)) (x1 : Int32) (st : zz_S) : zz_C (zm_V l D ad cA tb) yMO_at (Cond.code yMO_at prog_10_method_4_code 3 (some .int) :: zt_T) { frames := 0, cells := 0, slots := 0, locals := 0 } zz_ji [.ref (ad 0), .int x1] st (MO_at_f x1 st) := zz_met hV (by decide +kernel) rfl (Nat.le_of_ble_eq_true rfl) rfl (fun E h => MO_at_w hV h x1 st)
def MO_wrong_16 (y0 : Int32) (st : zz_S) : Option (Unit × zz_S) := (zz_nm (zz_sp st 2 y0) fun s_1 => (some ((), s_1)))
def MO_wrong_f (x1 : Int32) (st : zz_S) : Option (Unit × zz_S) := (if (zz_sg st 2) = 0 then (MO_wrong_16 x1 st) else (MO_wrong_16 (zz_sg st 2) st))
set_option maxRecDepth 100000 in
set_option maxHeartbeats 4000000 in
theorem MO_wrong_16_w {l : Launch} {D : va_G} {ad : Nat → Nat} {cA : Nat → ClassId} {tb : Nat} {E : zz_E} (hV : zz_ok (zm_V l D ad cA tb)) (h : zz_X (zm_V l D ad cA tb) E "FrameProcessorModel" prog_10_method_5_code 2 zt_T 0 0 none) (y0 : Int32) (st : zz_S) : zz_Z (zm_V l D ad cA tb) E 2 0 0 (zz_q (zm_V l D ad cA tb) E zz_jv) (MO_wrong_16 y0 st) 16 [] [.int y0, .ref (ad 0)] st := by
  unfold MO_wrong_16
  refine zm_p_MO_fault h zi_MO zf_MO_68 dMO_wrong_16 (fun s_1 => ?_)
  exact zz_vret h dMO_wrong_19
set_option maxRecDepth 100000 in
set_option maxHeartbeats 4000000 in
theorem MO_wrong_w {l : Launch} {D : va_G} {ad : Nat → Nat} {cA : Nat → ClassId} {tb : Nat} {E : zz_E} (hV : zz_ok (zm_V l D ad cA tb)) (h : zz_X (zm_V l D ad cA tb) E "FrameProcessorModel" prog_10_method_5_code 2 zt_T 0 0 none) (x1 : Int32) (st : zz_S) : zz_Z (zm_V l D ad cA tb) E 2 0 0 (zz_q (zm_V l D ad cA tb) E zz_jv) (MO_wrong_f x1 st) 0 [(0, .ref (ad 0)), (1, .int x1)] [] st := by
  unfold MO_wrong_f
  refine zz_aload_n h dMO_wrong_0 rfl ?_
  refine zz_aload_n h dMO_wrong_1 rfl ?_
  refine zm_g_MO_fault h zi_MO zf_MO_68 dMO_wrong_2 ?_
  refine zz_if_ne h 12 dMO_wrong_5 rfl ?_ ?_
  · refine zz_iload_n h dMO_wrong_8 rfl ?_
    refine zz_goto h 16 dMO_wrong_9 rfl ?_
    exact zz_sub (MO_wrong_16_w hV h _ _) rfl
  · refine zz_aload_n h dMO_wrong_12 rfl ?_
    refine zm_g_MO_fault h zi_MO zf_MO_68 dMO_wrong_13 ?_
    exact zz_sub (MO_wrong_16_w hV h _ _) rfl
theorem MO_wrong_c {l : Launch} {D : va_G} {ad : Nat → Nat} {cA : Nat → ClassId} {tb : Nat} (hV : zz_ok (zm_V l D ad cA tb)) (x1 : Int32) (st : zz_S) : zz_C (zm_V l D ad cA tb) yMO_wrong (Cond.code yMO_wrong prog_10_method_5_code 2 none :: zt_T) { frames := 0, cells := 0, slots := 0, locals := 0 } zz_jv [.ref (ad 0), .int x1] st (MO_wrong_f x1 st) := zz_met hV (by decide +kernel) rfl (Nat.le_of_ble_eq_true rfl) rfl (fun E h => MO_wrong_w hV h x1 st)
def MO_read_f (x1 : Int32) (st : zz_S) : Option (Int32 × zz_S) := (if (zz_sg st 2) ≤ 0 then (zz_bd (MO_at_f x1 st) fun r_2 s_1 => (if 0 ≤ r_2 then (zz_nm (r_2 / (256 : Int32)) fun v_3 => (zz_gd (zz_in v_3 12) (zz_nm (r_2 / (256 : Int32)) fun v_4 => (zz_gd (zz_in v_4 12) (zz_nm (zz_ap s_1 2 v_4.toNatClampNeg ((zz_ag s_1 2 v_3.toNatClampNeg) ||| (1 : Int32))) fun s_5 => (zz_gd (zz_in r_2 3072) (some ((zz_ag s_5 3 r_2.toNatClampNeg), s_5)))))))) else (zz_bd (MO_wrong_f (1 : Int32) s_1) fun _ s_6 => (some ((0 : Int32), s_6))))) else (some ((0 : Int32), st)))
set_option maxRecDepth 100000 in
set_option maxHeartbeats 4000000 in
theorem MO_read_w {l : Launch} {D : va_G} {ad : Nat → Nat} {cA : Nat → ClassId} {tb : Nat} {E : zz_E} (hV : zz_ok (zm_V l D ad cA tb)) (h : zz_X (zm_V l D ad cA tb) E "FrameProcessorModel" prog_10_method_6_code 3 zt_T 1 22 (some .int)) (x1 : Int32) (st : zz_S) : zz_Z (zm_V l D ad cA tb) E 3 0 0 (zz_q (zm_V l D ad cA tb) E zz_ji) (MO_read_f x1 st) 0 [(0, .ref (ad 0)), (1, .int x1)] [] st := by
  unfold MO_read_f
  refine zz_aload_n h dMO_read_0 rfl ?_
  refine zm_g_MO_fault h zi_MO zf_MO_68 dMO_read_1 ?_
  refine zz_if_le h 9 dMO_read_4 rfl ?_ ?_
  · refine zz_aload_n h dMO_read_9 rfl ?_
    refine zz_iload_n h dMO_read_10 rfl ?_
    refine zz_callV1i h 0 rfl rfl (MO_at_c hV _ _) MO_at_k zm_MO_71 rfl rfl ⟨Nat.le_of_ble_eq_true rfl, Nat.le_of_ble_eq_true rfl⟩ (Nat.le_of_ble_eq_true rfl) dMO_read_11 (fun r_2 s_1 => ?_)
    refine zz_istore_n h dMO_read_14 (Nat.le_of_ble_eq_true rfl) ?_
    refine zz_iload_n h dMO_read_15 rfl ?_
    refine zz_if_ge h 26 dMO_read_16 rfl ?_ ?_
    · refine zz_aload_n h dMO_read_26 rfl ?_
      refine zm_g_MO_notes h zi_MO zf_MO_13 dMO_read_27 ?_
      refine zz_iload_n h dMO_read_30 rfl ?_
      refine zz_sipush (v := 256) h dMO_read_31 zz_ls_256 ?_
      refine zz_idiv h dMO_read_34 (by decide) ?_
      refine zz_aload_n h dMO_read_35 rfl ?_
      refine zm_g_MO_notes h zi_MO zf_MO_13 dMO_read_36 ?_
      refine zz_iload_n h dMO_read_39 rfl ?_
      refine zz_sipush (v := 256) h dMO_read_40 zz_ls_256 ?_
      refine zz_idiv h dMO_read_43 (by decide) ?_
      refine zz_topi (fun v_3 => ?_)
      refine zm_ld_2 h dMO_read_44 ?_
      refine zz_iconst (v := 1) h dMO_read_45 zz_li_1 ?_
      refine zz_ior h dMO_read_46 ?_
      refine zz_top2 (fun v_4 => ?_)
      refine zm_st_2 h dMO_read_47 (fun s_5 => ?_)
      refine zz_aload_n h dMO_read_48 rfl ?_
      refine zm_g_MO_words h zi_MO zf_MO_16 dMO_read_49 ?_
      refine zz_iload_n h dMO_read_52 rfl ?_
      refine zm_ld_3 h dMO_read_53 ?_
      exact zz_iret h dMO_read_54
    · refine zz_aload_n h dMO_read_19 rfl ?_
      refine zz_iconst (v := 1) h dMO_read_20 zz_li_1 ?_
      refine zz_callV1v h 0 rfl rfl (MO_wrong_c hV _ _) MO_wrong_k zm_MO_75 rfl rfl ⟨Nat.le_of_ble_eq_true rfl, Nat.le_of_ble_eq_true rfl⟩ (Nat.le_of_ble_eq_true rfl) dMO_read_21 (fun _ s_6 => ?_)
      refine zz_iconst (v := 0) h dMO_read_24 zz_li_0 ?_
      exact zz_iret h dMO_read_25
  · refine zz_iconst (v := 0) h dMO_read_7 zz_li_0 ?_
    exact zz_iret h dMO_read_8
theorem MO_read_c {l : Launch} {D : va_G} {ad : Nat → Nat} {cA : Nat → ClassId} {tb : Nat} (hV : zz_ok (zm_V l D ad cA tb)) (x1 : Int32) (st : zz_S) : zz_C (zm_V l D ad cA tb) yMO_read (Cond.code yMO_read prog_10_method_6_code 3 (some .int) :: zt_T) { frames := 1, cells := 0, slots := 0, locals := 22 } zz_ji [.ref (ad 0), .int x1] st (MO_read_f x1 st) := zz_met hV (by decide +kernel) rfl (Nat.le_of_ble_eq_true rfl) rfl (fun E h => MO_read_w hV h x1 st)
def MO_low_f (x0 : Int32) (st : zz_S) : Option (Int32 × zz_S) := (some ((x0 &&& (65535 : Int32)), st))
set_option maxRecDepth 100000 in
set_option maxHeartbeats 4000000 in
theorem MO_low_w {l : Launch} {D : va_G} {ad : Nat → Nat} {cA : Nat → ClassId} {tb : Nat} {E : zz_E} (hV : zz_ok (zm_V l D ad cA tb)) (h : zz_X (zm_V l D ad cA tb) E "FrameProcessorModel" prog_10_method_3_code 1 zt_T 0 0 (some .int)) (x0 : Int32) (st : zz_S) : zz_Z (zm_V l D ad cA tb) E 1 0 0 (zz_q (zm_V l D ad cA tb) E zz_ji) (MO_low_f x0 st) 0 [(0, .int x0)] [] st := by
  unfold MO_low_f
  refine zz_iload_n h dMO_low_0 rfl ?_
  refine zz_ldc (v := 65535) h dMO_low_1 zc_MO_67 ?_
  refine zz_iand h dMO_low_3 ?_
  exact zz_iret h dMO_low_4
theorem MO_low_c {l : Launch} {D : va_G} {ad : Nat → Nat} {cA : Nat → ClassId} {tb : Nat} (hV : zz_ok (zm_V l D ad cA tb)) (x0 : Int32) (st : zz_S) : zz_C (zm_V l D ad cA tb) yMO_low (Cond.code yMO_low prog_10_method_3_code 1 (some .int) :: zt_T) { frames := 0, cells := 0, slots := 0, locals := 0 } zz_ji [.int x0] st (MO_low_f x0 st) := zz_met hV (by decide +kernel) rfl (Nat.le_of_ble_eq_true rfl) rfl (fun E h => MO_low_w hV h x0 st)
def MO_byteAt_f (x1 : Int32) (x2 : Int32) (st : zz_S) : Option (Int32 × zz_S) := (zz_bd (MO_low_f x2 st) fun r_2 s_1 => (zz_bd (MO_read_f (x1 + (r_2 / (2 : Int32))) s_1) fun r_4 s_3 => (if (zz_rem x2 (2 : Int32)) = 0 then (some ((r_4 >>> ((8 : Int32) &&& 31)), s_3)) else (some ((r_4 &&& (255 : Int32)), s_3)))))
set_option maxRecDepth 100000 in
set_option maxHeartbeats 4000000 in
theorem MO_byteAt_w {l : Launch} {D : va_G} {ad : Nat → Nat} {cA : Nat → ClassId} {tb : Nat} {E : zz_E} (hV : zz_ok (zm_V l D ad cA tb)) (h : zz_X (zm_V l D ad cA tb) E "FrameProcessorModel" prog_10_method_9_code 4 zt_T 2 44 (some .int)) (x1 : Int32) (x2 : Int32) (st : zz_S) : zz_Z (zm_V l D ad cA tb) E 4 0 0 (zz_q (zm_V l D ad cA tb) E zz_ji) (MO_byteAt_f x1 x2 st) 0 [(0, .ref (ad 0)), (1, .int x1), (2, .int x2)] [] st := by
  unfold MO_byteAt_f
  refine zz_aload_n h dMO_byteAt_0 rfl ?_
  refine zz_iload_n h dMO_byteAt_1 rfl ?_
  refine zz_iload_n h dMO_byteAt_2 rfl ?_
  refine zz_callS1i h (MO_low_c hV _ _) MO_low_k zm_MO_82 rfl rfl ⟨Nat.le_of_ble_eq_true rfl, Nat.le_of_ble_eq_true rfl⟩ (Nat.le_of_ble_eq_true rfl) dMO_byteAt_3 (fun r_2 s_1 => ?_)
  refine zz_iconst (v := 2) h dMO_byteAt_6 zz_li_2 ?_
  refine zz_idiv h dMO_byteAt_7 (by decide) ?_
  refine zz_iadd h dMO_byteAt_8 ?_
  refine zz_callV1i h 0 rfl rfl (MO_read_c hV _ _) MO_read_k zm_MO_85 rfl rfl ⟨Nat.le_of_ble_eq_true rfl, Nat.le_of_ble_eq_true rfl⟩ (Nat.le_of_ble_eq_true rfl) dMO_byteAt_9 (fun r_4 s_3 => ?_)
  refine zz_istore_n h dMO_byteAt_12 (Nat.le_of_ble_eq_true rfl) ?_
  refine zz_iload_n h dMO_byteAt_13 rfl ?_
  refine zz_iconst (v := 2) h dMO_byteAt_14 zz_li_2 ?_
  refine zz_irem h dMO_byteAt_15 (by decide) ?_
  refine zz_if_ne h 26 dMO_byteAt_16 rfl ?_ ?_
  · refine zz_iload_n h dMO_byteAt_19 rfl ?_
    refine zz_bipush (v := 8) h dMO_byteAt_20 zz_lb_8 ?_
    refine zz_ishr h dMO_byteAt_22 ?_
    refine zz_goto h 31 dMO_byteAt_23 rfl ?_
    exact zz_iret h dMO_byteAt_31
  · refine zz_iload_n h dMO_byteAt_26 rfl ?_
    refine zz_sipush (v := 255) h dMO_byteAt_27 zz_ls_255 ?_
    refine zz_iand h dMO_byteAt_30 ?_
    exact zz_iret h dMO_byteAt_31
theorem MO_byteAt_c {l : Launch} {D : va_G} {ad : Nat → Nat} {cA : Nat → ClassId} {tb : Nat} (hV : zz_ok (zm_V l D ad cA tb)) (x1 : Int32) (x2 : Int32) (st : zz_S) : zz_C (zm_V l D ad cA tb) yMO_byteAt (Cond.code yMO_byteAt prog_10_method_9_code 4 (some .int) :: zt_T) { frames := 2, cells := 0, slots := 0, locals := 44 } zz_ji [.ref (ad 0), .int x1, .int x2] st (MO_byteAt_f x1 x2 st) := zz_met hV (by decide +kernel) rfl (Nat.le_of_ble_eq_true rfl) rfl (fun E h => MO_byteAt_w hV h x1 x2 st)
def MO_nextByte_f (st : zz_S) : Option (Int32 × zz_S) := (zz_bd (MO_byteAt_f (zz_sg st 6) (zz_sg st 5) st) fun r_2 s_1 => (zz_bd (MO_low_f ((zz_sg s_1 5) + (1 : Int32)) s_1) fun r_4 s_3 => (zz_nm (zz_sp s_3 5 r_4) fun s_5 => (some (r_2, s_5)))))
set_option maxRecDepth 100000 in
set_option maxHeartbeats 4000000 in
theorem MO_nextByte_w {l : Launch} {D : va_G} {ad : Nat → Nat} {cA : Nat → ClassId} {tb : Nat} {E : zz_E} (hV : zz_ok (zm_V l D ad cA tb)) (h : zz_X (zm_V l D ad cA tb) E "FrameProcessorModel" prog_10_method_10_code 2 zt_T 3 67 (some .int)) (st : zz_S) : zz_Z (zm_V l D ad cA tb) E 2 0 0 (zz_q (zm_V l D ad cA tb) E zz_ji) (MO_nextByte_f  st) 0 [(0, .ref (ad 0))] [] st := by
  unfold MO_nextByte_f
  refine zz_aload_n h dMO_nextByte_0 rfl ?_
  refine zz_aload_n h dMO_nextByte_1 rfl ?_
  refine zm_g_MO_code h zi_MO zf_MO_88 dMO_nextByte_2 ?_
  refine zz_aload_n h dMO_nextByte_5 rfl ?_
  refine zm_g_MO_next h zi_MO zf_MO_91 dMO_nextByte_6 ?_
  refine zz_callV2i h 0 rfl rfl (MO_byteAt_c hV _ _ _) MO_byteAt_k zm_MO_94 rfl rfl ⟨Nat.le_of_ble_eq_true rfl, Nat.le_of_ble_eq_true rfl⟩ (Nat.le_of_ble_eq_true rfl) dMO_nextByte_9 (fun r_2 s_1 => ?_)
  refine zz_istore_n h dMO_nextByte_12 (Nat.le_of_ble_eq_true rfl) ?_
  refine zz_aload_n h dMO_nextByte_13 rfl ?_
  refine zz_aload_n h dMO_nextByte_14 rfl ?_
  refine zm_g_MO_next h zi_MO zf_MO_91 dMO_nextByte_15 ?_
  refine zz_iconst (v := 1) h dMO_nextByte_18 zz_li_1 ?_
  refine zz_iadd h dMO_nextByte_19 ?_
  refine zz_callS1i h (MO_low_c hV _ _) MO_low_k zm_MO_82 rfl rfl ⟨Nat.le_of_ble_eq_true rfl, Nat.le_of_ble_eq_true rfl⟩ (Nat.le_of_ble_eq_true rfl) dMO_nextByte_20 (fun r_4 s_3 => ?_)
  refine zm_p_MO_next h zi_MO zf_MO_91 dMO_nextByte_23 (fun s_5 => ?_)
  refine zz_iload_n h dMO_nextByte_26 rfl ?_
  exact zz_iret h dMO_nextByte_27
theorem MO_nextByte_c {l : Launch} {D : va_G} {ad : Nat → Nat} {cA : Nat → ClassId} {tb : Nat} (hV : zz_ok (zm_V l D ad cA tb)) (st : zz_S) : zz_C (zm_V l D ad cA tb) yMO_nextByte (Cond.code yMO_nextByte prog_10_method_10_code 2 (some .int) :: zt_T) { frames := 3, cells := 0, slots := 0, locals := 67 } zz_ji [.ref (ad 0)] st (MO_nextByte_f  st) := zz_met hV (by decide +kernel) rfl (Nat.le_of_ble_eq_true rfl) rfl (fun E h => MO_nextByte_w hV h  st)
def MO_push_f (x1 : Int32) (st : zz_S) : Option (Unit × zz_S) := (if (zz_sg st 2) ≤ 0 then (zz_bd (MO_low_f x1 st) fun r_2 s_1 => (zz_nm (zz_sg st 4) fun v_3 => (zz_gd (zz_in v_3 48) (zz_nm (zz_ap s_1 16 v_3.toNatClampNeg r_2) fun s_4 => (zz_nm (zz_sp s_4 4 ((zz_sg s_4 4) + (1 : Int32))) fun s_5 => (some ((), s_5))))))) else (some ((), st)))
set_option maxRecDepth 100000 in
set_option maxHeartbeats 4000000 in
theorem MO_push_w {l : Launch} {D : va_G} {ad : Nat → Nat} {cA : Nat → ClassId} {tb : Nat} {E : zz_E} (hV : zz_ok (zm_V l D ad cA tb)) (h : zz_X (zm_V l D ad cA tb) E "FrameProcessorModel" prog_10_method_12_code 2 zt_T 1 20 none) (x1 : Int32) (st : zz_S) : zz_Z (zm_V l D ad cA tb) E 2 0 0 (zz_q (zm_V l D ad cA tb) E zz_jv) (MO_push_f x1 st) 0 [(0, .ref (ad 0)), (1, .int x1)] [] st := by
  unfold MO_push_f
  refine zz_aload_n h dMO_push_0 rfl ?_
  refine zm_g_MO_fault h zi_MO zf_MO_68 dMO_push_1 ?_
  refine zz_if_le h 8 dMO_push_4 rfl ?_ ?_
  · refine zz_aload_n h dMO_push_8 rfl ?_
    refine zm_g_MO_mine h zi_MO zf_MO_57 dMO_push_9 ?_
    refine zz_aload_n h dMO_push_12 rfl ?_
    refine zm_g_MO_top h zi_MO zf_MO_98 dMO_push_13 ?_
    refine zz_iload_n h dMO_push_16 rfl ?_
    refine zz_callS1i h (MO_low_c hV _ _) MO_low_k zm_MO_82 rfl rfl ⟨Nat.le_of_ble_eq_true rfl, Nat.le_of_ble_eq_true rfl⟩ (Nat.le_of_ble_eq_true rfl) dMO_push_17 (fun r_2 s_1 => ?_)
    refine zz_top2 (fun v_3 => ?_)
    refine zm_st_16 h dMO_push_20 (fun s_4 => ?_)
    refine zz_aload_n h dMO_push_21 rfl ?_
    refine zz_dup h dMO_push_22 rfl ?_
    refine zm_g_MO_top h zi_MO zf_MO_98 dMO_push_23 ?_
    refine zz_iconst (v := 1) h dMO_push_26 zz_li_1 ?_
    refine zz_iadd h dMO_push_27 ?_
    refine zm_p_MO_top h zi_MO zf_MO_98 dMO_push_28 (fun s_5 => ?_)
    exact zz_vret h dMO_push_31
  · exact zz_vret h dMO_push_7
theorem MO_push_c {l : Launch} {D : va_G} {ad : Nat → Nat} {cA : Nat → ClassId} {tb : Nat} (hV : zz_ok (zm_V l D ad cA tb)) (x1 : Int32) (st : zz_S) : zz_C (zm_V l D ad cA tb) yMO_push (Cond.code yMO_push prog_10_method_12_code 2 none :: zt_T) { frames := 1, cells := 0, slots := 0, locals := 20 } zz_jv [.ref (ad 0), .int x1] st (MO_push_f x1 st) := zz_met hV (by decide +kernel) rfl (Nat.le_of_ble_eq_true rfl) rfl (fun E h => MO_push_w hV h x1 st)
def MO_pop_f (st : zz_S) : Option (Int32 × zz_S) := (if (zz_sg st 2) ≤ 0 then (if (zz_sg st 4) = 0 then (zz_bd (MO_wrong_f (5 : Int32) st) fun _ s_1 => (some ((0 : Int32), s_1))) else (zz_nm (zz_sp st 4 ((zz_sg st 4) - (1 : Int32))) fun s_2 => (zz_nm (zz_sg s_2 4) fun v_3 => (zz_gd (zz_in v_3 48) (some ((zz_ag s_2 16 v_3.toNatClampNeg), s_2)))))) else (some ((0 : Int32), st)))
set_option maxRecDepth 100000 in
set_option maxHeartbeats 4000000 in
theorem MO_pop_w {l : Launch} {D : va_G} {ad : Nat → Nat} {cA : Nat → ClassId} {tb : Nat} {E : zz_E} (hV : zz_ok (zm_V l D ad cA tb)) (h : zz_X (zm_V l D ad cA tb) E "FrameProcessorModel" prog_10_method_11_code 1 zt_T 1 21 (some .int)) (st : zz_S) : zz_Z (zm_V l D ad cA tb) E 1 0 0 (zz_q (zm_V l D ad cA tb) E zz_ji) (MO_pop_f  st) 0 [(0, .ref (ad 0))] [] st := by
  unfold MO_pop_f
  refine zz_aload_n h dMO_pop_0 rfl ?_
  refine zm_g_MO_fault h zi_MO zf_MO_68 dMO_pop_1 ?_
  refine zz_if_le h 9 dMO_pop_4 rfl ?_ ?_
  · refine zz_aload_n h dMO_pop_9 rfl ?_
    refine zm_g_MO_top h zi_MO zf_MO_98 dMO_pop_10 ?_
    refine zz_if_ne h 23 dMO_pop_13 rfl ?_ ?_
    · refine zz_aload_n h dMO_pop_16 rfl ?_
      refine zz_iconst (v := 5) h dMO_pop_17 zz_li_5 ?_
      refine zz_callV1v h 0 rfl rfl (MO_wrong_c hV _ _) MO_wrong_k zm_MO_75 rfl rfl ⟨Nat.le_of_ble_eq_true rfl, Nat.le_of_ble_eq_true rfl⟩ (Nat.le_of_ble_eq_true rfl) dMO_pop_18 (fun _ s_1 => ?_)
      refine zz_iconst (v := 0) h dMO_pop_21 zz_li_0 ?_
      exact zz_iret h dMO_pop_22
    · refine zz_aload_n h dMO_pop_23 rfl ?_
      refine zz_dup h dMO_pop_24 rfl ?_
      refine zm_g_MO_top h zi_MO zf_MO_98 dMO_pop_25 ?_
      refine zz_iconst (v := 1) h dMO_pop_28 zz_li_1 ?_
      refine zz_isub h dMO_pop_29 ?_
      refine zm_p_MO_top h zi_MO zf_MO_98 dMO_pop_30 (fun s_2 => ?_)
      refine zz_aload_n h dMO_pop_33 rfl ?_
      refine zm_g_MO_mine h zi_MO zf_MO_57 dMO_pop_34 ?_
      refine zz_aload_n h dMO_pop_37 rfl ?_
      refine zm_g_MO_top h zi_MO zf_MO_98 dMO_pop_38 ?_
      refine zz_topi (fun v_3 => ?_)
      refine zm_ld_16 h dMO_pop_41 ?_
      exact zz_iret h dMO_pop_42
  · refine zz_iconst (v := 0) h dMO_pop_7 zz_li_0 ?_
    exact zz_iret h dMO_pop_8
theorem MO_pop_c {l : Launch} {D : va_G} {ad : Nat → Nat} {cA : Nat → ClassId} {tb : Nat} (hV : zz_ok (zm_V l D ad cA tb)) (st : zz_S) : zz_C (zm_V l D ad cA tb) yMO_pop (Cond.code yMO_pop prog_10_method_11_code 1 (some .int) :: zt_T) { frames := 1, cells := 0, slots := 0, locals := 21 } zz_ji [.ref (ad 0)] st (MO_pop_f  st) := zz_met hV (by decide +kernel) rfl (Nat.le_of_ble_eq_true rfl) rfl (fun E h => MO_pop_w hV h  st)
def MO_write_48 (x2 : Int32) (x3 : Int32) (st : zz_S) : Option (Unit × zz_S) := (if (zz_sg st 2) ≤ 0 then (zz_nm (x3 / (256 : Int32)) fun v_1 => (zz_gd (zz_in v_1 12) (zz_nm (zz_ap st 2 v_1.toNatClampNeg (3 : Int32)) fun s_2 => (zz_nm (zz_sg s_2 1) fun v_3 => (zz_gd (zz_in v_3 40) (zz_nm (zz_ap s_2 14 v_3.toNatClampNeg x3) fun s_4 => (zz_gd (zz_in x3 3072) (zz_nm (zz_sg s_4 1) fun v_5 => (zz_gd (zz_in v_5 40) (zz_nm (zz_ap s_4 15 v_5.toNatClampNeg (zz_ag s_4 3 x3.toNatClampNeg)) fun s_6 => (zz_nm (zz_sp s_6 1 ((zz_sg s_6 1) + (1 : Int32))) fun s_7 => (zz_bd (MO_low_f x2 s_7) fun r_9 s_8 => (zz_gd (zz_in x3 3072) (zz_nm (zz_ap s_8 3 x3.toNatClampNeg r_9) fun s_10 => (some ((), s_10)))))))))))))))) else (some ((), st)))
def MO_write_f (x1 : Int32) (x2 : Int32) (st : zz_S) : Option (Unit × zz_S) := (if (zz_sg st 2) ≤ 0 then (zz_bd (MO_at_f x1 st) fun r_12 s_11 => (if 0 ≤ r_12 then (zz_nm ((x1 &&& (4095 : Int32)) / (256 : Int32)) fun v_13 => (zz_gd (zz_in v_13 16) (if (zz_ag s_11 4 v_13.toNatClampNeg) = 0 then (MO_write_48 x2 r_12 s_11) else (zz_bd (MO_wrong_f (2 : Int32) s_11) fun _ s_14 => (MO_write_48 x2 r_12 s_14))))) else (zz_bd (MO_wrong_f (1 : Int32) s_11) fun _ s_15 => (MO_write_48 x2 r_12 s_15)))) else (some ((), st)))
set_option maxRecDepth 100000 in
set_option maxHeartbeats 4000000 in
theorem MO_write_48_w {l : Launch} {D : va_G} {ad : Nat → Nat} {cA : Nat → ClassId} {tb : Nat} {E : zz_E} (hV : zz_ok (zm_V l D ad cA tb)) (h : zz_X (zm_V l D ad cA tb) E "FrameProcessorModel" prog_10_method_7_code 4 zt_T 1 22 none) (x2 : Int32) (x3 : Int32) (st : zz_S) : zz_Z (zm_V l D ad cA tb) E 4 0 0 (zz_q (zm_V l D ad cA tb) E zz_jv) (MO_write_48 x2 x3 st) 48 [(0, .ref (ad 0)), (2, .int x2), (3, .int x3)] [] st := by
  unfold MO_write_48
  refine zz_aload_n h dMO_write_48 rfl ?_
  refine zm_g_MO_fault h zi_MO zf_MO_68 dMO_write_49 ?_
  refine zz_if_le h 56 dMO_write_52 rfl ?_ ?_
  · refine zz_aload_n h dMO_write_56 rfl ?_
    refine zm_g_MO_notes h zi_MO zf_MO_13 dMO_write_57 ?_
    refine zz_iload_n h dMO_write_60 rfl ?_
    refine zz_sipush (v := 256) h dMO_write_61 zz_ls_256 ?_
    refine zz_idiv h dMO_write_64 (by decide) ?_
    refine zz_iconst (v := 3) h dMO_write_65 zz_li_3 ?_
    refine zz_top2 (fun v_1 => ?_)
    refine zm_st_2 h dMO_write_66 (fun s_2 => ?_)
    refine zz_aload_n h dMO_write_67 rfl ?_
    refine zm_g_MO_place h zi_MO zf_MO_51 dMO_write_68 ?_
    refine zz_aload_n h dMO_write_71 rfl ?_
    refine zm_g_MO_written h zi_MO zf_MO_79 dMO_write_72 ?_
    refine zz_iload_n h dMO_write_75 rfl ?_
    refine zz_top2 (fun v_3 => ?_)
    refine zm_st_14 h dMO_write_76 (fun s_4 => ?_)
    refine zz_aload_n h dMO_write_77 rfl ?_
    refine zm_g_MO_before h zi_MO zf_MO_54 dMO_write_78 ?_
    refine zz_aload_n h dMO_write_81 rfl ?_
    refine zm_g_MO_written h zi_MO zf_MO_79 dMO_write_82 ?_
    refine zz_aload_n h dMO_write_85 rfl ?_
    refine zm_g_MO_words h zi_MO zf_MO_16 dMO_write_86 ?_
    refine zz_iload_n h dMO_write_89 rfl ?_
    refine zm_ld_3 h dMO_write_90 ?_
    refine zz_top2 (fun v_5 => ?_)
    refine zm_st_15 h dMO_write_91 (fun s_6 => ?_)
    refine zz_aload_n h dMO_write_92 rfl ?_
    refine zz_dup h dMO_write_93 rfl ?_
    refine zm_g_MO_written h zi_MO zf_MO_79 dMO_write_94 ?_
    refine zz_iconst (v := 1) h dMO_write_97 zz_li_1 ?_
    refine zz_iadd h dMO_write_98 ?_
    refine zm_p_MO_written h zi_MO zf_MO_79 dMO_write_99 (fun s_7 => ?_)
    refine zz_aload_n h dMO_write_102 rfl ?_
    refine zm_g_MO_words h zi_MO zf_MO_16 dMO_write_103 ?_
    refine zz_iload_n h dMO_write_106 rfl ?_
    refine zz_iload_n h dMO_write_107 rfl ?_
    refine zz_callS1i h (MO_low_c hV _ _) MO_low_k zm_MO_82 rfl rfl ⟨Nat.le_of_ble_eq_true rfl, Nat.le_of_ble_eq_true rfl⟩ (Nat.le_of_ble_eq_true rfl) dMO_write_108 (fun r_9 s_8 => ?_)
    refine zm_st_3 h dMO_write_111 (fun s_10 => ?_)
    exact zz_vret h dMO_write_112
  · exact zz_vret h dMO_write_55
set_option maxRecDepth 100000 in
set_option maxHeartbeats 4000000 in
theorem MO_write_w {l : Launch} {D : va_G} {ad : Nat → Nat} {cA : Nat → ClassId} {tb : Nat} {E : zz_E} (hV : zz_ok (zm_V l D ad cA tb)) (h : zz_X (zm_V l D ad cA tb) E "FrameProcessorModel" prog_10_method_7_code 4 zt_T 1 22 none) (x1 : Int32) (x2 : Int32) (st : zz_S) : zz_Z (zm_V l D ad cA tb) E 4 0 0 (zz_q (zm_V l D ad cA tb) E zz_jv) (MO_write_f x1 x2 st) 0 [(0, .ref (ad 0)), (1, .int x1), (2, .int x2)] [] st := by
  unfold MO_write_f
  refine zz_aload_n h dMO_write_0 rfl ?_
  refine zm_g_MO_fault h zi_MO zf_MO_68 dMO_write_1 ?_
  refine zz_if_le h 8 dMO_write_4 rfl ?_ ?_
  · refine zz_aload_n h dMO_write_8 rfl ?_
    refine zz_iload_n h dMO_write_9 rfl ?_
    refine zz_callV1i h 0 rfl rfl (MO_at_c hV _ _) MO_at_k zm_MO_71 rfl rfl ⟨Nat.le_of_ble_eq_true rfl, Nat.le_of_ble_eq_true rfl⟩ (Nat.le_of_ble_eq_true rfl) dMO_write_10 (fun r_12 s_11 => ?_)
    refine zz_istore_n h dMO_write_13 (Nat.le_of_ble_eq_true rfl) ?_
    refine zz_iload_n h dMO_write_14 rfl ?_
    refine zz_if_ge h 26 dMO_write_15 rfl ?_ ?_
    · refine zz_aload_n h dMO_write_26 rfl ?_
      refine zm_g_MO_guarded h zi_MO zf_MO_19 dMO_write_27 ?_
      refine zz_iload_n h dMO_write_30 rfl ?_
      refine zz_sipush (v := 4095) h dMO_write_31 zz_ls_4095 ?_
      refine zz_iand h dMO_write_34 ?_
      refine zz_sipush (v := 256) h dMO_write_35 zz_ls_256 ?_
      refine zz_idiv h dMO_write_38 (by decide) ?_
      refine zz_topi (fun v_13 => ?_)
      refine zm_ld_4 h dMO_write_39 ?_
      refine zz_if_eq h 48 dMO_write_40 rfl ?_ ?_
      · exact zz_sub (MO_write_48_w hV h _ _ _) rfl
      · refine zz_aload_n h dMO_write_43 rfl ?_
        refine zz_iconst (v := 2) h dMO_write_44 zz_li_2 ?_
        refine zz_callV1v h 0 rfl rfl (MO_wrong_c hV _ _) MO_wrong_k zm_MO_75 rfl rfl ⟨Nat.le_of_ble_eq_true rfl, Nat.le_of_ble_eq_true rfl⟩ (Nat.le_of_ble_eq_true rfl) dMO_write_45 (fun _ s_14 => ?_)
        exact zz_sub (MO_write_48_w hV h _ _ _) rfl
    · refine zz_aload_n h dMO_write_18 rfl ?_
      refine zz_iconst (v := 1) h dMO_write_19 zz_li_1 ?_
      refine zz_callV1v h 0 rfl rfl (MO_wrong_c hV _ _) MO_wrong_k zm_MO_75 rfl rfl ⟨Nat.le_of_ble_eq_true rfl, Nat.le_of_ble_eq_true rfl⟩ (Nat.le_of_ble_eq_true rfl) dMO_write_20 (fun _ s_15 => ?_)
      refine zz_goto h 48 dMO_write_23 rfl ?_
      exact zz_sub (MO_write_48_w hV h _ _ _) rfl
  · exact zz_vret h dMO_write_7
theorem MO_write_c {l : Launch} {D : va_G} {ad : Nat → Nat} {cA : Nat → ClassId} {tb : Nat} (hV : zz_ok (zm_V l D ad cA tb)) (x1 : Int32) (x2 : Int32) (st : zz_S) : zz_C (zm_V l D ad cA tb) yMO_write (Cond.code yMO_write prog_10_method_7_code 4 none :: zt_T) { frames := 1, cells := 0, slots := 0, locals := 22 } zz_jv [.ref (ad 0), .int x1, .int x2] st (MO_write_f x1 x2 st) := zz_met hV (by decide +kernel) rfl (Nat.le_of_ble_eq_true rfl) rfl (fun E h => MO_write_w hV h x1 x2 st)
def MO_signed_f (x0 : Int32) (st : zz_S) : Option (Int32 × zz_S) := (if x0 < (32768 : Int32) then (some (x0, st)) else (some ((x0 - (65536 : Int32)), st)))
set_option maxRecDepth 100000 in
set_option maxHeartbeats 4000000 in
theorem MO_signed_w {l : Launch} {D : va_G} {ad : Nat → Nat} {cA : Nat → ClassId} {tb : Nat} {E : zz_E} (hV : zz_ok (zm_V l D ad cA tb)) (h : zz_X (zm_V l D ad cA tb) E "FrameProcessorModel" prog_10_method_13_code 1 zt_T 0 0 (some .int)) (x0 : Int32) (st : zz_S) : zz_Z (zm_V l D ad cA tb) E 1 0 0 (zz_q (zm_V l D ad cA tb) E zz_ji) (MO_signed_f x0 st) 0 [(0, .int x0)] [] st := by
  unfold MO_signed_f
  refine zz_iload_n h dMO_signed_0 rfl ?_
  refine zz_ldc (v := 32768) h dMO_signed_1 zc_MO_101 ?_
  refine zz_icmp_lt h 13 dMO_signed_3 rfl ?_ ?_
  · refine zz_iload_n h dMO_signed_13 rfl ?_
    exact zz_iret h dMO_signed_14
  · refine zz_iload_n h dMO_signed_6 rfl ?_
    refine zz_ldc (v := 65536) h dMO_signed_7 zc_MO_102 ?_
    refine zz_isub h dMO_signed_9 ?_
    refine zz_goto h 14 dMO_signed_10 rfl ?_
    exact zz_iret h dMO_signed_14
theorem MO_signed_c {l : Launch} {D : va_G} {ad : Nat → Nat} {cA : Nat → ClassId} {tb : Nat} (hV : zz_ok (zm_V l D ad cA tb)) (x0 : Int32) (st : zz_S) : zz_C (zm_V l D ad cA tb) yMO_signed (Cond.code yMO_signed prog_10_method_13_code 1 (some .int) :: zt_T) { frames := 0, cells := 0, slots := 0, locals := 0 } zz_ji [.int x0] st (MO_signed_f x0 st) := zz_met hV (by decide +kernel) rfl (Nat.le_of_ble_eq_true rfl) rfl (fun E h => MO_signed_w hV h x0 st)
def MO_field_31 (x0 : Int32) (x2 : Int32) (y0 : Int32) (st : zz_S) : Option (Int32 × zz_S) := (some (((x0 >>> ((((16 : Int32) - x2) - y0) &&& 31)) &&& (((1 : Int32) <<< (y0 &&& 31)) - (1 : Int32))), st))
def MO_field_f (x0 : Int32) (x1 : Int32) (st : zz_S) : Option (Int32 × zz_S) := (zz_nm (x1 / (16 : Int32)) fun v_1 => (if ((zz_rem x1 (16 : Int32)) + (1 : Int32)) ≤ ((16 : Int32) - v_1) then (MO_field_31 x0 v_1 ((zz_rem x1 (16 : Int32)) + (1 : Int32)) st) else (MO_field_31 x0 v_1 ((16 : Int32) - v_1) st)))
set_option maxRecDepth 100000 in
set_option maxHeartbeats 4000000 in
theorem MO_field_31_w {l : Launch} {D : va_G} {ad : Nat → Nat} {cA : Nat → ClassId} {tb : Nat} {E : zz_E} (hV : zz_ok (zm_V l D ad cA tb)) (h : zz_X (zm_V l D ad cA tb) E "FrameProcessorModel" prog_10_method_29_code 4 zt_T 0 0 (some .int)) (x0 : Int32) (x2 : Int32) (y0 : Int32) (st : zz_S) : zz_Z (zm_V l D ad cA tb) E 4 0 0 (zz_q (zm_V l D ad cA tb) E zz_ji) (MO_field_31 x0 x2 y0 st) 31 [(0, .int x0), (2, .int x2)] [.int y0] st := by
  unfold MO_field_31
  refine zz_istore_n h dMO_field_31 (Nat.le_of_ble_eq_true rfl) ?_
  refine zz_iload_n h dMO_field_32 rfl ?_
  refine zz_bipush (v := 16) h dMO_field_33 zz_lb_16 ?_
  refine zz_iload_n h dMO_field_35 rfl ?_
  refine zz_isub h dMO_field_36 ?_
  refine zz_iload_n h dMO_field_37 rfl ?_
  refine zz_isub h dMO_field_38 ?_
  refine zz_ishr h dMO_field_39 ?_
  refine zz_iconst (v := 1) h dMO_field_40 zz_li_1 ?_
  refine zz_iload_n h dMO_field_41 rfl ?_
  refine zz_ishl h dMO_field_42 ?_
  refine zz_iconst (v := 1) h dMO_field_43 zz_li_1 ?_
  refine zz_isub h dMO_field_44 ?_
  refine zz_iand h dMO_field_45 ?_
  exact zz_iret h dMO_field_46
set_option maxRecDepth 100000 in
set_option maxHeartbeats 4000000 in
theorem MO_field_w {l : Launch} {D : va_G} {ad : Nat → Nat} {cA : Nat → ClassId} {tb : Nat} {E : zz_E} (hV : zz_ok (zm_V l D ad cA tb)) (h : zz_X (zm_V l D ad cA tb) E "FrameProcessorModel" prog_10_method_29_code 4 zt_T 0 0 (some .int)) (x0 : Int32) (x1 : Int32) (st : zz_S) : zz_Z (zm_V l D ad cA tb) E 4 0 0 (zz_q (zm_V l D ad cA tb) E zz_ji) (MO_field_f x0 x1 st) 0 [(0, .int x0), (1, .int x1)] [] st := by
  unfold MO_field_f
  refine zz_iload_n h dMO_field_0 rfl ?_
  refine zz_bipush (v := 16) h dMO_field_1 zz_lb_16 ?_
  refine zz_idiv h dMO_field_3 (by decide) ?_
  refine zz_topi (fun v_1 => ?_)
  refine zz_istore_n h dMO_field_4 (Nat.le_of_ble_eq_true rfl) ?_
  refine zz_iload_n h dMO_field_5 rfl ?_
  refine zz_bipush (v := 16) h dMO_field_6 zz_lb_16 ?_
  refine zz_irem h dMO_field_8 (by decide) ?_
  refine zz_iconst (v := 1) h dMO_field_9 zz_li_1 ?_
  refine zz_iadd h dMO_field_10 ?_
  refine zz_bipush (v := 16) h dMO_field_11 zz_lb_16 ?_
  refine zz_iload_n h dMO_field_13 rfl ?_
  refine zz_isub h dMO_field_14 ?_
  refine zz_icmp_le h 25 dMO_field_15 rfl ?_ ?_
  · refine zz_iload_n h dMO_field_25 rfl ?_
    refine zz_bipush (v := 16) h dMO_field_26 zz_lb_16 ?_
    refine zz_irem h dMO_field_28 (by decide) ?_
    refine zz_iconst (v := 1) h dMO_field_29 zz_li_1 ?_
    refine zz_iadd h dMO_field_30 ?_
    exact zz_sub (MO_field_31_w hV h _ _ _ _) rfl
  · refine zz_bipush (v := 16) h dMO_field_18 zz_lb_16 ?_
    refine zz_iload_n h dMO_field_20 rfl ?_
    refine zz_isub h dMO_field_21 ?_
    refine zz_goto h 31 dMO_field_22 rfl ?_
    exact zz_sub (MO_field_31_w hV h _ _ _ _) rfl
theorem MO_field_c {l : Launch} {D : va_G} {ad : Nat → Nat} {cA : Nat → ClassId} {tb : Nat} (hV : zz_ok (zm_V l D ad cA tb)) (x0 : Int32) (x1 : Int32) (st : zz_S) : zz_C (zm_V l D ad cA tb) yMO_field (Cond.code yMO_field prog_10_method_29_code 4 (some .int) :: zt_T) { frames := 0, cells := 0, slots := 0, locals := 0 } zz_ji [.int x0, .int x1] st (MO_field_f x0 x1 st) := zz_met hV (by decide +kernel) rfl (Nat.le_of_ble_eq_true rfl) rfl (fun E h => MO_field_w hV h x0 x1 st)
