def MO_placed_31 (x0 : Int32) (x1 : Int32) (x3 : Int32) (y0 : Int32) (st : zz_S) : Option (Int32 × zz_S) := (zz_nm ((((1 : Int32) <<< (y0 &&& 31)) - (1 : Int32)) <<< ((((16 : Int32) - x3) - y0) &&& 31)) fun v_1 => (some (((x0 &&& (v_1 ^^^ (-1 : Int32))) ||| ((x1 <<< ((((16 : Int32) - x3) - y0) &&& 31)) &&& v_1)), st)))
def MO_placed_f (x0 : Int32) (x1 : Int32) (x2 : Int32) (st : zz_S) : Option (Int32 × zz_S) := (zz_nm (x2 / (16 : Int32)) fun v_2 => (if ((zz_rem x2 (16 : Int32)) + (1 : Int32)) ≤ ((16 : Int32) - v_2) then (MO_placed_31 x0 x1 v_2 ((zz_rem x2 (16 : Int32)) + (1 : Int32)) st) else (MO_placed_31 x0 x1 v_2 ((16 : Int32) - v_2) st)))
set_option maxRecDepth 100000 in
set_option maxHeartbeats 4000000 in
theorem MO_placed_31_w {l : Launch} {D : va_G} {ad : Nat → Nat} {cA : Nat → ClassId} {tb : Nat} {E : zz_E} (hV : zz_ok (zm_V l D ad cA tb)) (h : zz_X (zm_V l D ad cA tb) E "FrameProcessorModel" prog_10_method_30_code 6 zt_T 0 0 (some .int)) (x0 : Int32) (x1 : Int32) (x3 : Int32) (y0 : Int32) (st : zz_S) : zz_Z (zm_V l D ad cA tb) E 6 0 0 (zz_q (zm_V l D ad cA tb) E zz_ji) (MO_placed_31 x0 x1 x3 y0 st) 31 [(0, .int x0), (1, .int x1), (3, .int x3)] [.int y0] st := by
  unfold MO_placed_31
  refine zz_istore h dMO_placed_31 (Nat.le_of_ble_eq_true rfl) ?_
  refine zz_iconst (v := 1) h dMO_placed_33 zz_li_1 ?_
  refine zz_iload h dMO_placed_34 rfl ?_
  refine zz_ishl h dMO_placed_36 ?_
  refine zz_iconst (v := 1) h dMO_placed_37 zz_li_1 ?_
  refine zz_isub h dMO_placed_38 ?_
  refine zz_bipush (v := 16) h dMO_placed_39 zz_lb_16 ?_
  refine zz_iload_n h dMO_placed_41 rfl ?_
  refine zz_isub h dMO_placed_42 ?_
  refine zz_iload h dMO_placed_43 rfl ?_
  refine zz_isub h dMO_placed_45 ?_
  refine zz_ishl h dMO_placed_46 ?_
  refine zz_topi (fun v_1 => ?_)
  refine zz_istore h dMO_placed_47 (Nat.le_of_ble_eq_true rfl) ?_
  refine zz_iload_n h dMO_placed_49 rfl ?_
  refine zz_iload h dMO_placed_50 rfl ?_
  refine zz_iconst (v := -1) h dMO_placed_52 zz_li_m1 ?_
  refine zz_ixor h dMO_placed_53 ?_
  refine zz_iand h dMO_placed_54 ?_
  refine zz_iload_n h dMO_placed_55 rfl ?_
  refine zz_bipush (v := 16) h dMO_placed_56 zz_lb_16 ?_
  refine zz_iload_n h dMO_placed_58 rfl ?_
  refine zz_isub h dMO_placed_59 ?_
  refine zz_iload h dMO_placed_60 rfl ?_
  refine zz_isub h dMO_placed_62 ?_
  refine zz_ishl h dMO_placed_63 ?_
  refine zz_iload h dMO_placed_64 rfl ?_
  refine zz_iand h dMO_placed_66 ?_
  refine zz_ior h dMO_placed_67 ?_
  exact zz_iret h dMO_placed_68
set_option maxRecDepth 100000 in
set_option maxHeartbeats 4000000 in
theorem MO_placed_w {l : Launch} {D : va_G} {ad : Nat → Nat} {cA : Nat → ClassId} {tb : Nat} {E : zz_E} (hV : zz_ok (zm_V l D ad cA tb)) (h : zz_X (zm_V l D ad cA tb) E "FrameProcessorModel" prog_10_method_30_code 6 zt_T 0 0 (some .int)) (x0 : Int32) (x1 : Int32) (x2 : Int32) (st : zz_S) : zz_Z (zm_V l D ad cA tb) E 6 0 0 (zz_q (zm_V l D ad cA tb) E zz_ji) (MO_placed_f x0 x1 x2 st) 0 [(0, .int x0), (1, .int x1), (2, .int x2)] [] st := by
  unfold MO_placed_f
  refine zz_iload_n h dMO_placed_0 rfl ?_
  refine zz_bipush (v := 16) h dMO_placed_1 zz_lb_16 ?_
  refine zz_idiv h dMO_placed_3 (by decide) ?_
  refine zz_topi (fun v_2 => ?_)
  refine zz_istore_n h dMO_placed_4 (Nat.le_of_ble_eq_true rfl) ?_
  refine zz_iload_n h dMO_placed_5 rfl ?_
  refine zz_bipush (v := 16) h dMO_placed_6 zz_lb_16 ?_
  refine zz_irem h dMO_placed_8 (by decide) ?_
  refine zz_iconst (v := 1) h dMO_placed_9 zz_li_1 ?_
  refine zz_iadd h dMO_placed_10 ?_
  refine zz_bipush (v := 16) h dMO_placed_11 zz_lb_16 ?_
  refine zz_iload_n h dMO_placed_13 rfl ?_
  refine zz_isub h dMO_placed_14 ?_
  refine zz_icmp_le h 25 dMO_placed_15 rfl ?_ ?_
  · refine zz_iload_n h dMO_placed_25 rfl ?_
    refine zz_bipush (v := 16) h dMO_placed_26 zz_lb_16 ?_
    refine zz_irem h dMO_placed_28 (by decide) ?_
    refine zz_iconst (v := 1) h dMO_placed_29 zz_li_1 ?_
    refine zz_iadd h dMO_placed_30 ?_
    exact zz_sub (MO_placed_31_w hV h _ _ _ _ _) rfl
  · refine zz_bipush (v := 16) h dMO_placed_18 zz_lb_16 ?_
    refine zz_iload_n h dMO_placed_20 rfl ?_
    refine zz_isub h dMO_placed_21 ?_
    refine zz_goto h 31 dMO_placed_22 rfl ?_
    exact zz_sub (MO_placed_31_w hV h _ _ _ _ _) rfl
theorem MO_placed_c {l : Launch} {D : va_G} {ad : Nat → Nat} {cA : Nat → ClassId} {tb : Nat} (hV : zz_ok (zm_V l D ad cA tb)) (x0 : Int32) (x1 : Int32) (x2 : Int32) (st : zz_S) : zz_C (zm_V l D ad cA tb) yMO_placed (Cond.code yMO_placed prog_10_method_30_code 6 (some .int) :: zt_T) { frames := 0, cells := 0, slots := 0, locals := 0 } zz_ji [.int x0, .int x1, .int x2] st (MO_placed_f x0 x1 x2 st) := zz_met hV (by decide +kernel) rfl (Nat.le_of_ble_eq_true rfl) rfl (fun E h => MO_placed_w hV h x0 x1 x2 st)
def MO_meant_51 (x2 : Int32) (st : zz_S) : Option (Int32 × zz_S) := (zz_bd (MO_wrong_f (4 : Int32) st) fun _ s_1 => (some (x2, s_1)))
def MO_meant_9 (x1 : Int32) (st : zz_S) : Option (Int32 × zz_S) := (if 0 < (zz_sg st 2) then (some (x1, st)) else (if (zz_rem x1 (4 : Int32)) = (2 : Int32) then (zz_bd (MO_read_f (x1 - (2 : Int32)) st) fun r_3 s_2 => (if (zz_sg s_2 2) = 0 then (if (zz_rem r_3 (4 : Int32)) = (2 : Int32) then (MO_meant_51 r_3 s_2) else (if r_3 = 0 then (MO_meant_51 r_3 s_2) else (some (r_3, s_2)))) else (some (r_3, s_2)))) else (some (x1, st))))
def MO_meant_f (x1 : Int32) (st : zz_S) : Option (Int32 × zz_S) := (if x1 = 0 then (zz_bd (MO_wrong_f (4 : Int32) st) fun _ s_4 => (MO_meant_9 x1 s_4)) else (MO_meant_9 x1 st))
set_option maxRecDepth 100000 in
set_option maxHeartbeats 4000000 in
theorem MO_meant_51_w {l : Launch} {D : va_G} {ad : Nat → Nat} {cA : Nat → ClassId} {tb : Nat} {E : zz_E} (hV : zz_ok (zm_V l D ad cA tb)) (h : zz_X (zm_V l D ad cA tb) E "FrameProcessorModel" prog_10_method_16_code 3 zt_T 2 44 (some .int)) (x2 : Int32) (st : zz_S) : zz_Z (zm_V l D ad cA tb) E 3 0 0 (zz_q (zm_V l D ad cA tb) E zz_ji) (MO_meant_51 x2 st) 51 [(0, .ref (ad 0)), (2, .int x2)] [] st := by
  unfold MO_meant_51
  refine zz_aload_n h dMO_meant_51 rfl ?_
  refine zz_iconst (v := 4) h dMO_meant_52 zz_li_4 ?_
  refine zz_callV1v h 0 rfl rfl (MO_wrong_c hV _ _) MO_wrong_k zm_MO_75 rfl rfl ⟨Nat.le_of_ble_eq_true rfl, Nat.le_of_ble_eq_true rfl⟩ (Nat.le_of_ble_eq_true rfl) dMO_meant_53 (fun _ s_1 => ?_)
  refine zz_iload_n h dMO_meant_56 rfl ?_
  exact zz_iret h dMO_meant_57
set_option maxRecDepth 100000 in
set_option maxHeartbeats 4000000 in
theorem MO_meant_9_w {l : Launch} {D : va_G} {ad : Nat → Nat} {cA : Nat → ClassId} {tb : Nat} {E : zz_E} (hV : zz_ok (zm_V l D ad cA tb)) (h : zz_X (zm_V l D ad cA tb) E "FrameProcessorModel" prog_10_method_16_code 3 zt_T 2 44 (some .int)) (x1 : Int32) (st : zz_S) : zz_Z (zm_V l D ad cA tb) E 3 0 0 (zz_q (zm_V l D ad cA tb) E zz_ji) (MO_meant_9 x1 st) 9 [(0, .ref (ad 0)), (1, .int x1)] [] st := by
  unfold MO_meant_9
  refine zz_aload_n h dMO_meant_9 rfl ?_
  refine zm_g_MO_fault h zi_MO zf_MO_68 dMO_meant_10 ?_
  refine zz_if_gt h 23 dMO_meant_13 rfl ?_ ?_
  · refine zz_iload_n h dMO_meant_23 rfl ?_
    exact zz_iret h dMO_meant_24
  · refine zz_iload_n h dMO_meant_16 rfl ?_
    refine zz_iconst (v := 4) h dMO_meant_17 zz_li_4 ?_
    refine zz_irem h dMO_meant_18 (by decide) ?_
    refine zz_iconst (v := 2) h dMO_meant_19 zz_li_2 ?_
    refine zz_icmp_eq h 25 dMO_meant_20 rfl ?_ ?_
    · refine zz_aload_n h dMO_meant_25 rfl ?_
      refine zz_iload_n h dMO_meant_26 rfl ?_
      refine zz_iconst (v := 2) h dMO_meant_27 zz_li_2 ?_
      refine zz_isub h dMO_meant_28 ?_
      refine zz_callV1i h 0 rfl rfl (MO_read_c hV _ _) MO_read_k zm_MO_85 rfl rfl ⟨Nat.le_of_ble_eq_true rfl, Nat.le_of_ble_eq_true rfl⟩ (Nat.le_of_ble_eq_true rfl) dMO_meant_29 (fun r_3 s_2 => ?_)
      refine zz_istore_n h dMO_meant_32 (Nat.le_of_ble_eq_true rfl) ?_
      refine zz_aload_n h dMO_meant_33 rfl ?_
      refine zm_g_MO_fault h zi_MO zf_MO_68 dMO_meant_34 ?_
      refine zz_if_ne h 56 dMO_meant_37 rfl ?_ ?_
      · refine zz_iload_n h dMO_meant_40 rfl ?_
        refine zz_iconst (v := 4) h dMO_meant_41 zz_li_4 ?_
        refine zz_irem h dMO_meant_42 (by decide) ?_
        refine zz_iconst (v := 2) h dMO_meant_43 zz_li_2 ?_
        refine zz_icmp_eq h 51 dMO_meant_44 rfl ?_ ?_
        · exact zz_sub (MO_meant_51_w hV h _ _) rfl
        · refine zz_iload_n h dMO_meant_47 rfl ?_
          refine zz_if_ne h 56 dMO_meant_48 rfl ?_ ?_
          · exact zz_sub (MO_meant_51_w hV h _ _) rfl
          · refine zz_iload_n h dMO_meant_56 rfl ?_
            exact zz_iret h dMO_meant_57
      · refine zz_iload_n h dMO_meant_56 rfl ?_
        exact zz_iret h dMO_meant_57
    · refine zz_iload_n h dMO_meant_23 rfl ?_
      exact zz_iret h dMO_meant_24
set_option maxRecDepth 100000 in
set_option maxHeartbeats 4000000 in
theorem MO_meant_w {l : Launch} {D : va_G} {ad : Nat → Nat} {cA : Nat → ClassId} {tb : Nat} {E : zz_E} (hV : zz_ok (zm_V l D ad cA tb)) (h : zz_X (zm_V l D ad cA tb) E "FrameProcessorModel" prog_10_method_16_code 3 zt_T 2 44 (some .int)) (x1 : Int32) (st : zz_S) : zz_Z (zm_V l D ad cA tb) E 3 0 0 (zz_q (zm_V l D ad cA tb) E zz_ji) (MO_meant_f x1 st) 0 [(0, .ref (ad 0)), (1, .int x1)] [] st := by
  unfold MO_meant_f
  refine zz_iload_n h dMO_meant_0 rfl ?_
  refine zz_if_ne h 9 dMO_meant_1 rfl ?_ ?_
  · refine zz_aload_n h dMO_meant_4 rfl ?_
    refine zz_iconst (v := 4) h dMO_meant_5 zz_li_4 ?_
    refine zz_callV1v h 0 rfl rfl (MO_wrong_c hV _ _) MO_wrong_k zm_MO_75 rfl rfl ⟨Nat.le_of_ble_eq_true rfl, Nat.le_of_ble_eq_true rfl⟩ (Nat.le_of_ble_eq_true rfl) dMO_meant_6 (fun _ s_4 => ?_)
    exact zz_sub (MO_meant_9_w hV h _ _) rfl
  · exact zz_sub (MO_meant_9_w hV h _ _) rfl
theorem MO_meant_c {l : Launch} {D : va_G} {ad : Nat → Nat} {cA : Nat → ClassId} {tb : Nat} (hV : zz_ok (zm_V l D ad cA tb)) (x1 : Int32) (st : zz_S) : zz_C (zm_V l D ad cA tb) yMO_meant (Cond.code yMO_meant prog_10_method_16_code 3 (some .int) :: zt_T) { frames := 2, cells := 0, slots := 0, locals := 44 } zz_ji [.ref (ad 0), .int x1] st (MO_meant_f x1 st) := zz_met hV (by decide +kernel) rfl (Nat.le_of_ble_eq_true rfl) rfl (fun E h => MO_meant_w hV h x1 st)
def MO_take_59 (x2 : Int32) (x3 : Int32) (st : zz_S) : Option (Int32 × zz_S) := (zz_bd (MO_read_f x3 st) fun r_2 s_1 => (zz_bd (MO_write_f ((16 : Int32) + x2) r_2 s_1) fun _ s_3 => (zz_bd (MO_write_f (x3 + (3 : Int32)) x2 s_3) fun _ s_4 => (some (x3, s_4)))))
def MO_take_43 (x2 : Int32) (x3 : Int32) (st : zz_S) : Option (Int32 × zz_S) := (if (zz_sg st 2) = 0 then (if x3 = 0 then (zz_bd (MO_wrong_f (3 : Int32) st) fun _ s_5 => (MO_take_59 x2 x3 s_5)) else (MO_take_59 x2 x3 st)) else (MO_take_59 x2 x3 st))
def MO_take_11b (k11 : Int32 → Int32 → zz_S → Option (Int32 × zz_S)) (x2 : Int32) (x3 : Int32) (st : zz_S) : Option (Int32 × zz_S) := (if (zz_sg st 2) = 0 then (if x3 = 0 then (if (7 : Int32) ≤ x2 then (MO_take_43 x2 x3 st) else (zz_bd (MO_read_f ((16 : Int32) + (x2 + (1 : Int32))) st) fun r_7 s_6 => (k11 (x2 + (1 : Int32)) r_7 s_6))) else (MO_take_43 x2 x3 st)) else (MO_take_43 x2 x3 st))
def MO_take_11 : Nat → Int32 → Int32 → zz_S → Option (Int32 × zz_S)
  | 0 => fun _ _ _ => none
  | n + 1 => MO_take_11b (MO_take_11 n)
def MO_take_f (x1 : Int32) (st : zz_S) : Option (Int32 × zz_S) := (zz_bd (MO_read_f ((16 : Int32) + x1) st) fun r_9 s_8 => (MO_take_11 10 x1 r_9 s_8))
set_option maxRecDepth 100000 in
set_option maxHeartbeats 4000000 in
theorem MO_take_59_w {l : Launch} {D : va_G} {ad : Nat → Nat} {cA : Nat → ClassId} {tb : Nat} {E : zz_E} (hV : zz_ok (zm_V l D ad cA tb)) (h : zz_X (zm_V l D ad cA tb) E "FrameProcessorModel" prog_10_method_14_code 5 zt_T 2 45 (some .int)) (x2 : Int32) (x3 : Int32) (st : zz_S) : zz_Z (zm_V l D ad cA tb) E 5 0 0 (zz_q (zm_V l D ad cA tb) E zz_ji) (MO_take_59 x2 x3 st) 59 [(0, .ref (ad 0)), (2, .int x2), (3, .int x3)] [] st := by
  unfold MO_take_59
  refine zz_aload_n h dMO_take_59 rfl ?_
  refine zz_iload_n h dMO_take_60 rfl ?_
  refine zz_callV1i h 0 rfl rfl (MO_read_c hV _ _) MO_read_k zm_MO_85 rfl rfl ⟨Nat.le_of_ble_eq_true rfl, Nat.le_of_ble_eq_true rfl⟩ (Nat.le_of_ble_eq_true rfl) dMO_take_61 (fun r_2 s_1 => ?_)
  refine zz_istore h dMO_take_64 (Nat.le_of_ble_eq_true rfl) ?_
  refine zz_aload_n h dMO_take_66 rfl ?_
  refine zz_bipush (v := 16) h dMO_take_67 zz_lb_16 ?_
  refine zz_iload_n h dMO_take_69 rfl ?_
  refine zz_iadd h dMO_take_70 ?_
  refine zz_iload h dMO_take_71 rfl ?_
  refine zz_callV2v h 0 rfl rfl (MO_write_c hV _ _ _) MO_write_k zm_MO_103 rfl rfl ⟨Nat.le_of_ble_eq_true rfl, Nat.le_of_ble_eq_true rfl⟩ (Nat.le_of_ble_eq_true rfl) dMO_take_73 (fun _ s_3 => ?_)
  refine zz_aload_n h dMO_take_76 rfl ?_
  refine zz_iload_n h dMO_take_77 rfl ?_
  refine zz_iconst (v := 3) h dMO_take_78 zz_li_3 ?_
  refine zz_iadd h dMO_take_79 ?_
  refine zz_iload_n h dMO_take_80 rfl ?_
  refine zz_callV2v h 0 rfl rfl (MO_write_c hV _ _ _) MO_write_k zm_MO_103 rfl rfl ⟨Nat.le_of_ble_eq_true rfl, Nat.le_of_ble_eq_true rfl⟩ (Nat.le_of_ble_eq_true rfl) dMO_take_81 (fun _ s_4 => ?_)
  refine zz_iload_n h dMO_take_84 rfl ?_
  exact zz_iret h dMO_take_85
set_option maxRecDepth 100000 in
set_option maxHeartbeats 4000000 in
theorem MO_take_43_w {l : Launch} {D : va_G} {ad : Nat → Nat} {cA : Nat → ClassId} {tb : Nat} {E : zz_E} (hV : zz_ok (zm_V l D ad cA tb)) (h : zz_X (zm_V l D ad cA tb) E "FrameProcessorModel" prog_10_method_14_code 5 zt_T 2 45 (some .int)) (x2 : Int32) (x3 : Int32) (st : zz_S) : zz_Z (zm_V l D ad cA tb) E 5 0 0 (zz_q (zm_V l D ad cA tb) E zz_ji) (MO_take_43 x2 x3 st) 43 [(0, .ref (ad 0)), (2, .int x2), (3, .int x3)] [] st := by
  unfold MO_take_43
  refine zz_aload_n h dMO_take_43 rfl ?_
  refine zm_g_MO_fault h zi_MO zf_MO_68 dMO_take_44 ?_
  refine zz_if_ne h 59 dMO_take_47 rfl ?_ ?_
  · refine zz_iload_n h dMO_take_50 rfl ?_
    refine zz_if_ne h 59 dMO_take_51 rfl ?_ ?_
    · refine zz_aload_n h dMO_take_54 rfl ?_
      refine zz_iconst (v := 3) h dMO_take_55 zz_li_3 ?_
      refine zz_callV1v h 0 rfl rfl (MO_wrong_c hV _ _) MO_wrong_k zm_MO_75 rfl rfl ⟨Nat.le_of_ble_eq_true rfl, Nat.le_of_ble_eq_true rfl⟩ (Nat.le_of_ble_eq_true rfl) dMO_take_56 (fun _ s_5 => ?_)
      exact zz_sub (MO_take_59_w hV h _ _ _) rfl
    · exact zz_sub (MO_take_59_w hV h _ _ _) rfl
  · exact zz_sub (MO_take_59_w hV h _ _ _) rfl
set_option maxRecDepth 100000 in
set_option maxHeartbeats 4000000 in
theorem MO_take_11b_w {l : Launch} {D : va_G} {ad : Nat → Nat} {cA : Nat → ClassId} {tb : Nat} {E : zz_E} (hV : zz_ok (zm_V l D ad cA tb)) (h : zz_X (zm_V l D ad cA tb) E "FrameProcessorModel" prog_10_method_14_code 5 zt_T 2 45 (some .int)) {k11 : Int32 → Int32 → zz_S → Option (Int32 × zz_S)} (hk11 : ∀ (x2 : Int32) (x3 : Int32) (st : zz_S), zz_Z (zm_V l D ad cA tb) E 5 0 0 (zz_q (zm_V l D ad cA tb) E zz_ji) (k11 x2 x3 st) 11 [(0, .ref (ad 0)), (2, .int x2), (3, .int x3)] [] st) (x2 : Int32) (x3 : Int32) (st : zz_S) : zz_Z (zm_V l D ad cA tb) E 5 0 0 (zz_q (zm_V l D ad cA tb) E zz_ji) (MO_take_11b k11 x2 x3 st) 11 [(0, .ref (ad 0)), (2, .int x2), (3, .int x3)] [] st := by
  unfold MO_take_11b
  refine zz_aload_n h dMO_take_11 rfl ?_
  refine zm_g_MO_fault h zi_MO zf_MO_68 dMO_take_12 ?_
  refine zz_if_ne h 43 dMO_take_15 rfl ?_ ?_
  · refine zz_iload_n h dMO_take_18 rfl ?_
    refine zz_if_ne h 43 dMO_take_19 rfl ?_ ?_
    · refine zz_iload_n h dMO_take_22 rfl ?_
      refine zz_bipush (v := 7) h dMO_take_23 zz_lb_7 ?_
      refine zz_icmp_ge h 43 dMO_take_25 rfl ?_ ?_
      · exact zz_sub (MO_take_43_w hV h _ _ _) rfl
      · refine zz_iinc h (1 : Int32) dMO_take_28 zz_li_1 rfl (Nat.le_of_ble_eq_true rfl) ?_
        refine zz_aload_n h dMO_take_31 rfl ?_
        refine zz_bipush (v := 16) h dMO_take_32 zz_lb_16 ?_
        refine zz_iload_n h dMO_take_34 rfl ?_
        refine zz_iadd h dMO_take_35 ?_
        refine zz_callV1i h 0 rfl rfl (MO_read_c hV _ _) MO_read_k zm_MO_85 rfl rfl ⟨Nat.le_of_ble_eq_true rfl, Nat.le_of_ble_eq_true rfl⟩ (Nat.le_of_ble_eq_true rfl) dMO_take_36 (fun r_7 s_6 => ?_)
        refine zz_istore_n h dMO_take_39 (Nat.le_of_ble_eq_true rfl) ?_
        refine zz_goto h 11 dMO_take_40 rfl ?_
        exact zz_sub (hk11 _ _ _) rfl
    · exact zz_sub (MO_take_43_w hV h _ _ _) rfl
  · exact zz_sub (MO_take_43_w hV h _ _ _) rfl
theorem MO_take_11_w {l : Launch} {D : va_G} {ad : Nat → Nat} {cA : Nat → ClassId} {tb : Nat} {E : zz_E} (hV : zz_ok (zm_V l D ad cA tb)) (h : zz_X (zm_V l D ad cA tb) E "FrameProcessorModel" prog_10_method_14_code 5 zt_T 2 45 (some .int)) : ∀ (n : Nat) (x2 : Int32) (x3 : Int32) (st : zz_S), zz_Z (zm_V l D ad cA tb) E 5 0 0 (zz_q (zm_V l D ad cA tb) E zz_ji) (MO_take_11 n x2 x3 st) 11 [(0, .ref (ad 0)), (2, .int x2), (3, .int x3)] [] st
  | 0, _, _, _ => zz_none
  | n + 1, x2, x3, st => MO_take_11b_w hV h (MO_take_11_w hV h n) x2 x3 st
set_option maxRecDepth 100000 in
set_option maxHeartbeats 4000000 in
theorem MO_take_w {l : Launch} {D : va_G} {ad : Nat → Nat} {cA : Nat → ClassId} {tb : Nat} {E : zz_E} (hV : zz_ok (zm_V l D ad cA tb)) (h : zz_X (zm_V l D ad cA tb) E "FrameProcessorModel" prog_10_method_14_code 5 zt_T 2 45 (some .int)) (x1 : Int32) (st : zz_S) : zz_Z (zm_V l D ad cA tb) E 5 0 0 (zz_q (zm_V l D ad cA tb) E zz_ji) (MO_take_f x1 st) 0 [(0, .ref (ad 0)), (1, .int x1)] [] st := by
  unfold MO_take_f
  refine zz_iload_n h dMO_take_0 rfl ?_
  refine zz_istore_n h dMO_take_1 (Nat.le_of_ble_eq_true rfl) ?_
  refine zz_aload_n h dMO_take_2 rfl ?_
  refine zz_bipush (v := 16) h dMO_take_3 zz_lb_16 ?_
  refine zz_iload_n h dMO_take_5 rfl ?_
  refine zz_iadd h dMO_take_6 ?_
  refine zz_callV1i h 0 rfl rfl (MO_read_c hV _ _) MO_read_k zm_MO_85 rfl rfl ⟨Nat.le_of_ble_eq_true rfl, Nat.le_of_ble_eq_true rfl⟩ (Nat.le_of_ble_eq_true rfl) dMO_take_7 (fun r_9 s_8 => ?_)
  refine zz_istore_n h dMO_take_10 (Nat.le_of_ble_eq_true rfl) ?_
  exact zz_sub (MO_take_11_w hV h _ _ _ _) rfl
theorem MO_take_c {l : Launch} {D : va_G} {ad : Nat → Nat} {cA : Nat → ClassId} {tb : Nat} (hV : zz_ok (zm_V l D ad cA tb)) (x1 : Int32) (st : zz_S) : zz_C (zm_V l D ad cA tb) yMO_take (Cond.code yMO_take prog_10_method_14_code 5 (some .int) :: zt_T) { frames := 2, cells := 0, slots := 0, locals := 45 } zz_ji [.ref (ad 0), .int x1] st (MO_take_f x1 st) := zz_met hV (by decide +kernel) rfl (Nat.le_of_ble_eq_true rfl) rfl (fun E h => MO_take_w hV h x1 st)
def MO_called_f (x1 : Int32) (x2 : Int32) (st : zz_S) : Option (Int32 × zz_S) := (zz_bd (MO_meant_f x1 st) fun r_2 s_1 => (if 0 < (zz_sg s_1 2) then (some (r_2, s_1)) else (if (zz_rem r_2 (4 : Int32)) = 0 then (some (r_2, s_1)) else (zz_nm (zz_rem (r_2 / (32 : Int32)) (16 : Int32)) fun v_3 => (zz_bd (MO_read_f ((32 : Int32) + v_3) s_1) fun r_5 s_4 => (zz_bd (MO_read_f r_5 s_4) fun r_7 s_6 => (zz_bd (MO_read_f (r_7 + (zz_rem (r_2 / (2 : Int32)) (16 : Int32))) s_6) fun r_9 s_8 => (zz_bd (MO_byteAt_f r_7 r_9 s_8) fun r_11 s_10 => (zz_nm (r_11 &&& (7 : Int32)) fun v_12 => (zz_bd (MO_take_f v_12 s_10) fun r_14 s_13 => (zz_bd (MO_write_f r_14 x2 s_13) fun _ s_15 => (zz_bd (MO_write_f (r_14 + (1 : Int32)) v_3 s_15) fun _ s_16 => (zz_bd (MO_write_f (r_14 + (2 : Int32)) (r_9 + (1 : Int32)) s_16) fun _ s_17 => (some (r_14, s_17)))))))))))))))
set_option maxRecDepth 100000 in
set_option maxHeartbeats 4000000 in
theorem MO_called_w {l : Launch} {D : va_G} {ad : Nat → Nat} {cA : Nat → ClassId} {tb : Nat} {E : zz_E} (hV : zz_ok (zm_V l D ad cA tb)) (h : zz_X (zm_V l D ad cA tb) E "FrameProcessorModel" prog_10_method_17_code 9 zt_T 3 69 (some .int)) (x1 : Int32) (x2 : Int32) (st : zz_S) : zz_Z (zm_V l D ad cA tb) E 9 0 0 (zz_q (zm_V l D ad cA tb) E zz_ji) (MO_called_f x1 x2 st) 0 [(0, .ref (ad 0)), (1, .int x1), (2, .int x2)] [] st := by
  unfold MO_called_f
  refine zz_aload_n h dMO_called_0 rfl ?_
  refine zz_iload_n h dMO_called_1 rfl ?_
  refine zz_callV1i h 0 rfl rfl (MO_meant_c hV _ _) MO_meant_k zm_MO_107 rfl rfl ⟨Nat.le_of_ble_eq_true rfl, Nat.le_of_ble_eq_true rfl⟩ (Nat.le_of_ble_eq_true rfl) dMO_called_2 (fun r_2 s_1 => ?_)
  refine zz_istore_n h dMO_called_5 (Nat.le_of_ble_eq_true rfl) ?_
  refine zz_aload_n h dMO_called_6 rfl ?_
  refine zm_g_MO_fault h zi_MO zf_MO_68 dMO_called_7 ?_
  refine zz_if_gt h 19 dMO_called_10 rfl ?_ ?_
  · refine zz_iload_n h dMO_called_19 rfl ?_
    exact zz_iret h dMO_called_20
  · refine zz_iload_n h dMO_called_13 rfl ?_
    refine zz_iconst (v := 4) h dMO_called_14 zz_li_4 ?_
    refine zz_irem h dMO_called_15 (by decide) ?_
    refine zz_if_ne h 21 dMO_called_16 rfl ?_ ?_
    · refine zz_iload_n h dMO_called_19 rfl ?_
      exact zz_iret h dMO_called_20
    · refine zz_iload_n h dMO_called_21 rfl ?_
      refine zz_bipush (v := 32) h dMO_called_22 zz_lb_32 ?_
      refine zz_idiv h dMO_called_24 (by decide) ?_
      refine zz_bipush (v := 16) h dMO_called_25 zz_lb_16 ?_
      refine zz_irem h dMO_called_27 (by decide) ?_
      refine zz_topi (fun v_3 => ?_)
      refine zz_istore h dMO_called_28 (Nat.le_of_ble_eq_true rfl) ?_
      refine zz_aload_n h dMO_called_30 rfl ?_
      refine zz_aload_n h dMO_called_31 rfl ?_
      refine zz_bipush (v := 32) h dMO_called_32 zz_lb_32 ?_
      refine zz_iload h dMO_called_34 rfl ?_
      refine zz_iadd h dMO_called_36 ?_
      refine zz_callV1i h 0 rfl rfl (MO_read_c hV _ _) MO_read_k zm_MO_85 rfl rfl ⟨Nat.le_of_ble_eq_true rfl, Nat.le_of_ble_eq_true rfl⟩ (Nat.le_of_ble_eq_true rfl) dMO_called_37 (fun r_5 s_4 => ?_)
      refine zz_callV1i h 0 rfl rfl (MO_read_c hV _ _) MO_read_k zm_MO_85 rfl rfl ⟨Nat.le_of_ble_eq_true rfl, Nat.le_of_ble_eq_true rfl⟩ (Nat.le_of_ble_eq_true rfl) dMO_called_40 (fun r_7 s_6 => ?_)
      refine zz_istore h dMO_called_43 (Nat.le_of_ble_eq_true rfl) ?_
      refine zz_aload_n h dMO_called_45 rfl ?_
      refine zz_iload h dMO_called_46 rfl ?_
      refine zz_iload_n h dMO_called_48 rfl ?_
      refine zz_iconst (v := 2) h dMO_called_49 zz_li_2 ?_
      refine zz_idiv h dMO_called_50 (by decide) ?_
      refine zz_bipush (v := 16) h dMO_called_51 zz_lb_16 ?_
      refine zz_irem h dMO_called_53 (by decide) ?_
      refine zz_iadd h dMO_called_54 ?_
      refine zz_callV1i h 0 rfl rfl (MO_read_c hV _ _) MO_read_k zm_MO_85 rfl rfl ⟨Nat.le_of_ble_eq_true rfl, Nat.le_of_ble_eq_true rfl⟩ (Nat.le_of_ble_eq_true rfl) dMO_called_55 (fun r_9 s_8 => ?_)
      refine zz_istore h dMO_called_58 (Nat.le_of_ble_eq_true rfl) ?_
      refine zz_aload_n h dMO_called_60 rfl ?_
      refine zz_iload h dMO_called_61 rfl ?_
      refine zz_iload h dMO_called_63 rfl ?_
      refine zz_callV2i h 0 rfl rfl (MO_byteAt_c hV _ _ _) MO_byteAt_k zm_MO_94 rfl rfl ⟨Nat.le_of_ble_eq_true rfl, Nat.le_of_ble_eq_true rfl⟩ (Nat.le_of_ble_eq_true rfl) dMO_called_65 (fun r_11 s_10 => ?_)
      refine zz_bipush (v := 7) h dMO_called_68 zz_lb_7 ?_
      refine zz_iand h dMO_called_70 ?_
      refine zz_topi (fun v_12 => ?_)
      refine zz_istore h dMO_called_71 (Nat.le_of_ble_eq_true rfl) ?_
      refine zz_aload_n h dMO_called_73 rfl ?_
      refine zz_iload h dMO_called_74 rfl ?_
      refine zz_callV1i h 0 rfl rfl (MO_take_c hV _ _) MO_take_k zm_MO_110 rfl rfl ⟨Nat.le_of_ble_eq_true rfl, Nat.le_of_ble_eq_true rfl⟩ (Nat.le_of_ble_eq_true rfl) dMO_called_76 (fun r_14 s_13 => ?_)
      refine zz_istore h dMO_called_79 (Nat.le_of_ble_eq_true rfl) ?_
      refine zz_aload_n h dMO_called_81 rfl ?_
      refine zz_iload h dMO_called_82 rfl ?_
      refine zz_iload_n h dMO_called_84 rfl ?_
      refine zz_callV2v h 0 rfl rfl (MO_write_c hV _ _ _) MO_write_k zm_MO_103 rfl rfl ⟨Nat.le_of_ble_eq_true rfl, Nat.le_of_ble_eq_true rfl⟩ (Nat.le_of_ble_eq_true rfl) dMO_called_85 (fun _ s_15 => ?_)
      refine zz_aload_n h dMO_called_88 rfl ?_
      refine zz_iload h dMO_called_89 rfl ?_
      refine zz_iconst (v := 1) h dMO_called_91 zz_li_1 ?_
      refine zz_iadd h dMO_called_92 ?_
      refine zz_iload h dMO_called_93 rfl ?_
      refine zz_callV2v h 0 rfl rfl (MO_write_c hV _ _ _) MO_write_k zm_MO_103 rfl rfl ⟨Nat.le_of_ble_eq_true rfl, Nat.le_of_ble_eq_true rfl⟩ (Nat.le_of_ble_eq_true rfl) dMO_called_95 (fun _ s_16 => ?_)
      refine zz_aload_n h dMO_called_98 rfl ?_
      refine zz_iload h dMO_called_99 rfl ?_
      refine zz_iconst (v := 2) h dMO_called_101 zz_li_2 ?_
      refine zz_iadd h dMO_called_102 ?_
      refine zz_iload h dMO_called_103 rfl ?_
      refine zz_iconst (v := 1) h dMO_called_105 zz_li_1 ?_
      refine zz_iadd h dMO_called_106 ?_
      refine zz_callV2v h 0 rfl rfl (MO_write_c hV _ _ _) MO_write_k zm_MO_103 rfl rfl ⟨Nat.le_of_ble_eq_true rfl, Nat.le_of_ble_eq_true rfl⟩ (Nat.le_of_ble_eq_true rfl) dMO_called_107 (fun _ s_17 => ?_)
      refine zz_iload h dMO_called_110 rfl ?_
      exact zz_iret h dMO_called_112
theorem MO_called_c {l : Launch} {D : va_G} {ad : Nat → Nat} {cA : Nat → ClassId} {tb : Nat} (hV : zz_ok (zm_V l D ad cA tb)) (x1 : Int32) (x2 : Int32) (st : zz_S) : zz_C (zm_V l D ad cA tb) yMO_called (Cond.code yMO_called prog_10_method_17_code 9 (some .int) :: zt_T) { frames := 3, cells := 0, slots := 0, locals := 69 } zz_ji [.ref (ad 0), .int x1, .int x2] st (MO_called_f x1 x2 st) := zz_met hV (by decide +kernel) rfl (Nat.le_of_ble_eq_true rfl) rfl (fun E h => MO_called_w hV h x1 x2 st)
def MO_call_f (x1 : Int32) (st : zz_S) : Option (Unit × zz_S) := (zz_nm (zz_sg st 3) fun v_1 => (zz_gd (zz_in v_1 6) (zz_nm (zz_ag st 7 v_1.toNatClampNeg) fun v_2 => (zz_bd (MO_write_f (v_2 + (2 : Int32)) (zz_sg st 5) st) fun _ s_3 => (zz_bd (MO_called_f x1 v_2 s_3) fun r_5 s_4 => (if (zz_sg s_4 2) = 0 then (zz_nm (zz_sg s_4 3) fun v_6 => (zz_gd (zz_in v_6 6) (zz_nm (zz_ap s_4 7 v_6.toNatClampNeg r_5) fun s_7 => (some ((), s_7))))) else (some ((), s_4))))))))
set_option maxRecDepth 100000 in
set_option maxHeartbeats 4000000 in
theorem MO_call_w {l : Launch} {D : va_G} {ad : Nat → Nat} {cA : Nat → ClassId} {tb : Nat} {E : zz_E} (hV : zz_ok (zm_V l D ad cA tb)) (h : zz_X (zm_V l D ad cA tb) E "FrameProcessorModel" prog_10_method_18_code 4 zt_T 4 97 none) (x1 : Int32) (st : zz_S) : zz_Z (zm_V l D ad cA tb) E 4 0 0 (zz_q (zm_V l D ad cA tb) E zz_jv) (MO_call_f x1 st) 0 [(0, .ref (ad 0)), (1, .int x1)] [] st := by
  unfold MO_call_f
  refine zz_aload_n h dMO_call_0 rfl ?_
  refine zm_g_MO_frame h zi_MO zf_MO_29 dMO_call_1 ?_
  refine zz_aload_n h dMO_call_4 rfl ?_
  refine zm_g_MO_me h zi_MO zf_MO_113 dMO_call_5 ?_
  refine zz_topi (fun v_1 => ?_)
  refine zm_ld_7 h dMO_call_8 ?_
  refine zz_topi (fun v_2 => ?_)
  refine zz_istore_n h dMO_call_9 (Nat.le_of_ble_eq_true rfl) ?_
  refine zz_aload_n h dMO_call_10 rfl ?_
  refine zz_iload_n h dMO_call_11 rfl ?_
  refine zz_iconst (v := 2) h dMO_call_12 zz_li_2 ?_
  refine zz_iadd h dMO_call_13 ?_
  refine zz_aload_n h dMO_call_14 rfl ?_
  refine zm_g_MO_next h zi_MO zf_MO_91 dMO_call_15 ?_
  refine zz_callV2v h 0 rfl rfl (MO_write_c hV _ _ _) MO_write_k zm_MO_103 rfl rfl ⟨Nat.le_of_ble_eq_true rfl, Nat.le_of_ble_eq_true rfl⟩ (Nat.le_of_ble_eq_true rfl) dMO_call_18 (fun _ s_3 => ?_)
  refine zz_aload_n h dMO_call_21 rfl ?_
  refine zz_iload_n h dMO_call_22 rfl ?_
  refine zz_iload_n h dMO_call_23 rfl ?_
  refine zz_callV2i h 0 rfl rfl (MO_called_c hV _ _ _) MO_called_k zm_MO_116 rfl rfl ⟨Nat.le_of_ble_eq_true rfl, Nat.le_of_ble_eq_true rfl⟩ (Nat.le_of_ble_eq_true rfl) dMO_call_24 (fun r_5 s_4 => ?_)
  refine zz_istore_n h dMO_call_27 (Nat.le_of_ble_eq_true rfl) ?_
  refine zz_aload_n h dMO_call_28 rfl ?_
  refine zm_g_MO_fault h zi_MO zf_MO_68 dMO_call_29 ?_
  refine zz_if_ne h 45 dMO_call_32 rfl ?_ ?_
  · refine zz_aload_n h dMO_call_35 rfl ?_
    refine zm_g_MO_frame h zi_MO zf_MO_29 dMO_call_36 ?_
    refine zz_aload_n h dMO_call_39 rfl ?_
    refine zm_g_MO_me h zi_MO zf_MO_113 dMO_call_40 ?_
    refine zz_iload_n h dMO_call_43 rfl ?_
    refine zz_top2 (fun v_6 => ?_)
    refine zm_st_7 h dMO_call_44 (fun s_7 => ?_)
    exact zz_vret h dMO_call_45
  · exact zz_vret h dMO_call_45
theorem MO_call_c {l : Launch} {D : va_G} {ad : Nat → Nat} {cA : Nat → ClassId} {tb : Nat} (hV : zz_ok (zm_V l D ad cA tb)) (x1 : Int32) (st : zz_S) : zz_C (zm_V l D ad cA tb) yMO_call (Cond.code yMO_call prog_10_method_18_code 4 none :: zt_T) { frames := 4, cells := 0, slots := 0, locals := 97 } zz_jv [.ref (ad 0), .int x1] st (MO_call_f x1 st) := zz_met hV (by decide +kernel) rfl (Nat.le_of_ble_eq_true rfl) rfl (fun E h => MO_call_w hV h x1 st)
def MO_give_f (x1 : Int32) (st : zz_S) : Option (Unit × zz_S) := (zz_bd (MO_read_f (x1 + (3 : Int32)) st) fun r_2 s_1 => (zz_nm (r_2 &&& (7 : Int32)) fun v_3 => (zz_bd (MO_read_f ((16 : Int32) + v_3) s_1) fun r_5 s_4 => (zz_bd (MO_write_f x1 r_5 s_4) fun _ s_6 => (zz_bd (MO_write_f ((16 : Int32) + v_3) x1 s_6) fun _ s_7 => (some ((), s_7)))))))
set_option maxRecDepth 100000 in
set_option maxHeartbeats 4000000 in
theorem MO_give_w {l : Launch} {D : va_G} {ad : Nat → Nat} {cA : Nat → ClassId} {tb : Nat} {E : zz_E} (hV : zz_ok (zm_V l D ad cA tb)) (h : zz_X (zm_V l D ad cA tb) E "FrameProcessorModel" prog_10_method_15_code 4 zt_T 2 45 none) (x1 : Int32) (st : zz_S) : zz_Z (zm_V l D ad cA tb) E 4 0 0 (zz_q (zm_V l D ad cA tb) E zz_jv) (MO_give_f x1 st) 0 [(0, .ref (ad 0)), (1, .int x1)] [] st := by
  unfold MO_give_f
  refine zz_aload_n h dMO_give_0 rfl ?_
  refine zz_iload_n h dMO_give_1 rfl ?_
  refine zz_iconst (v := 3) h dMO_give_2 zz_li_3 ?_
  refine zz_iadd h dMO_give_3 ?_
  refine zz_callV1i h 0 rfl rfl (MO_read_c hV _ _) MO_read_k zm_MO_85 rfl rfl ⟨Nat.le_of_ble_eq_true rfl, Nat.le_of_ble_eq_true rfl⟩ (Nat.le_of_ble_eq_true rfl) dMO_give_4 (fun r_2 s_1 => ?_)
  refine zz_bipush (v := 7) h dMO_give_7 zz_lb_7 ?_
  refine zz_iand h dMO_give_9 ?_
  refine zz_topi (fun v_3 => ?_)
  refine zz_istore_n h dMO_give_10 (Nat.le_of_ble_eq_true rfl) ?_
  refine zz_aload_n h dMO_give_11 rfl ?_
  refine zz_bipush (v := 16) h dMO_give_12 zz_lb_16 ?_
  refine zz_iload_n h dMO_give_14 rfl ?_
  refine zz_iadd h dMO_give_15 ?_
  refine zz_callV1i h 0 rfl rfl (MO_read_c hV _ _) MO_read_k zm_MO_85 rfl rfl ⟨Nat.le_of_ble_eq_true rfl, Nat.le_of_ble_eq_true rfl⟩ (Nat.le_of_ble_eq_true rfl) dMO_give_16 (fun r_5 s_4 => ?_)
  refine zz_istore_n h dMO_give_19 (Nat.le_of_ble_eq_true rfl) ?_
  refine zz_aload_n h dMO_give_20 rfl ?_
  refine zz_iload_n h dMO_give_21 rfl ?_
  refine zz_iload_n h dMO_give_22 rfl ?_
  refine zz_callV2v h 0 rfl rfl (MO_write_c hV _ _ _) MO_write_k zm_MO_103 rfl rfl ⟨Nat.le_of_ble_eq_true rfl, Nat.le_of_ble_eq_true rfl⟩ (Nat.le_of_ble_eq_true rfl) dMO_give_23 (fun _ s_6 => ?_)
  refine zz_aload_n h dMO_give_26 rfl ?_
  refine zz_bipush (v := 16) h dMO_give_27 zz_lb_16 ?_
  refine zz_iload_n h dMO_give_29 rfl ?_
  refine zz_iadd h dMO_give_30 ?_
  refine zz_iload_n h dMO_give_31 rfl ?_
  refine zz_callV2v h 0 rfl rfl (MO_write_c hV _ _ _) MO_write_k zm_MO_103 rfl rfl ⟨Nat.le_of_ble_eq_true rfl, Nat.le_of_ble_eq_true rfl⟩ (Nat.le_of_ble_eq_true rfl) dMO_give_32 (fun _ s_7 => ?_)
  exact zz_vret h dMO_give_35
theorem MO_give_c {l : Launch} {D : va_G} {ad : Nat → Nat} {cA : Nat → ClassId} {tb : Nat} (hV : zz_ok (zm_V l D ad cA tb)) (x1 : Int32) (st : zz_S) : zz_C (zm_V l D ad cA tb) yMO_give (Cond.code yMO_give prog_10_method_15_code 4 none :: zt_T) { frames := 2, cells := 0, slots := 0, locals := 45 } zz_jv [.ref (ad 0), .int x1] st (MO_give_f x1 st) := zz_met hV (by decide +kernel) rfl (Nat.le_of_ble_eq_true rfl) rfl (fun E h => MO_give_w hV h x1 st)
def MO_giveBack_43 (x2 : Int32) (st : zz_S) : Option (Unit × zz_S) := (zz_bd (MO_called_f x2 (0 : Int32) st) fun r_2 s_1 => (if (zz_sg s_1 2) = 0 then (zz_nm (zz_sg s_1 3) fun v_3 => (zz_gd (zz_in v_3 6) (zz_nm (zz_ap s_1 7 v_3.toNatClampNeg r_2) fun s_4 => (some ((), s_4))))) else (some ((), s_1))))
def MO_giveBack_f (st : zz_S) : Option (Unit × zz_S) := (zz_nm (zz_sg st 3) fun v_5 => (zz_gd (zz_in v_5 6) (zz_nm (zz_ag st 7 v_5.toNatClampNeg) fun v_6 => (zz_bd (MO_read_f v_6 st) fun r_8 s_7 => (zz_bd (MO_give_f v_6 s_7) fun _ s_9 => (if (zz_sg s_9 2) = 0 then (if r_8 = 0 then (zz_nm (zz_sg s_9 3) fun v_10 => (zz_gd (zz_in v_10 6) (zz_nm (zz_ap s_9 5 v_10.toNatClampNeg (0 : Int32)) fun s_11 => (some ((), s_11))))) else (MO_giveBack_43 r_8 s_9)) else (MO_giveBack_43 r_8 s_9)))))))
set_option maxRecDepth 100000 in
set_option maxHeartbeats 4000000 in
theorem MO_giveBack_43_w {l : Launch} {D : va_G} {ad : Nat → Nat} {cA : Nat → ClassId} {tb : Nat} {E : zz_E} (hV : zz_ok (zm_V l D ad cA tb)) (h : zz_X (zm_V l D ad cA tb) E "FrameProcessorModel" prog_10_method_19_code 4 zt_T 4 97 none) (x2 : Int32) (st : zz_S) : zz_Z (zm_V l D ad cA tb) E 4 0 0 (zz_q (zm_V l D ad cA tb) E zz_jv) (MO_giveBack_43 x2 st) 43 [(0, .ref (ad 0)), (2, .int x2)] [] st := by
  unfold MO_giveBack_43
  refine zz_aload_n h dMO_giveBack_43 rfl ?_
  refine zz_iload_n h dMO_giveBack_44 rfl ?_
  refine zz_iconst (v := 0) h dMO_giveBack_45 zz_li_0 ?_
  refine zz_callV2i h 0 rfl rfl (MO_called_c hV _ _ _) MO_called_k zm_MO_116 rfl rfl ⟨Nat.le_of_ble_eq_true rfl, Nat.le_of_ble_eq_true rfl⟩ (Nat.le_of_ble_eq_true rfl) dMO_giveBack_46 (fun r_2 s_1 => ?_)
  refine zz_istore_n h dMO_giveBack_49 (Nat.le_of_ble_eq_true rfl) ?_
  refine zz_aload_n h dMO_giveBack_50 rfl ?_
  refine zm_g_MO_fault h zi_MO zf_MO_68 dMO_giveBack_51 ?_
  refine zz_if_ne h 67 dMO_giveBack_54 rfl ?_ ?_
  · refine zz_aload_n h dMO_giveBack_57 rfl ?_
    refine zm_g_MO_frame h zi_MO zf_MO_29 dMO_giveBack_58 ?_
    refine zz_aload_n h dMO_giveBack_61 rfl ?_
    refine zm_g_MO_me h zi_MO zf_MO_113 dMO_giveBack_62 ?_
    refine zz_iload_n h dMO_giveBack_65 rfl ?_
    refine zz_top2 (fun v_3 => ?_)
    refine zm_st_7 h dMO_giveBack_66 (fun s_4 => ?_)
    exact zz_vret h dMO_giveBack_67
  · exact zz_vret h dMO_giveBack_67
set_option maxRecDepth 100000 in
set_option maxHeartbeats 4000000 in
theorem MO_giveBack_w {l : Launch} {D : va_G} {ad : Nat → Nat} {cA : Nat → ClassId} {tb : Nat} {E : zz_E} (hV : zz_ok (zm_V l D ad cA tb)) (h : zz_X (zm_V l D ad cA tb) E "FrameProcessorModel" prog_10_method_19_code 4 zt_T 4 97 none) (st : zz_S) : zz_Z (zm_V l D ad cA tb) E 4 0 0 (zz_q (zm_V l D ad cA tb) E zz_jv) (MO_giveBack_f  st) 0 [(0, .ref (ad 0))] [] st := by
  unfold MO_giveBack_f
  refine zz_aload_n h dMO_giveBack_0 rfl ?_
  refine zm_g_MO_frame h zi_MO zf_MO_29 dMO_giveBack_1 ?_
  refine zz_aload_n h dMO_giveBack_4 rfl ?_
  refine zm_g_MO_me h zi_MO zf_MO_113 dMO_giveBack_5 ?_
  refine zz_topi (fun v_5 => ?_)
  refine zm_ld_7 h dMO_giveBack_8 ?_
  refine zz_topi (fun v_6 => ?_)
  refine zz_istore_n h dMO_giveBack_9 (Nat.le_of_ble_eq_true rfl) ?_
  refine zz_aload_n h dMO_giveBack_10 rfl ?_
  refine zz_iload_n h dMO_giveBack_11 rfl ?_
  refine zz_callV1i h 0 rfl rfl (MO_read_c hV _ _) MO_read_k zm_MO_85 rfl rfl ⟨Nat.le_of_ble_eq_true rfl, Nat.le_of_ble_eq_true rfl⟩ (Nat.le_of_ble_eq_true rfl) dMO_giveBack_12 (fun r_8 s_7 => ?_)
  refine zz_istore_n h dMO_giveBack_15 (Nat.le_of_ble_eq_true rfl) ?_
  refine zz_aload_n h dMO_giveBack_16 rfl ?_
  refine zz_iload_n h dMO_giveBack_17 rfl ?_
  refine zz_callV1v h 0 rfl rfl (MO_give_c hV _ _) MO_give_k zm_MO_119 rfl rfl ⟨Nat.le_of_ble_eq_true rfl, Nat.le_of_ble_eq_true rfl⟩ (Nat.le_of_ble_eq_true rfl) dMO_giveBack_18 (fun _ s_9 => ?_)
  refine zz_aload_n h dMO_giveBack_21 rfl ?_
  refine zm_g_MO_fault h zi_MO zf_MO_68 dMO_giveBack_22 ?_
  refine zz_if_ne h 43 dMO_giveBack_25 rfl ?_ ?_
  · refine zz_iload_n h dMO_giveBack_28 rfl ?_
    refine zz_if_ne h 43 dMO_giveBack_29 rfl ?_ ?_
    · refine zz_aload_n h dMO_giveBack_32 rfl ?_
      refine zm_g_MO_state h zi_MO zf_MO_23 dMO_giveBack_33 ?_
      refine zz_aload_n h dMO_giveBack_36 rfl ?_
      refine zm_g_MO_me h zi_MO zf_MO_113 dMO_giveBack_37 ?_
      refine zz_iconst (v := 0) h dMO_giveBack_40 zz_li_0 ?_
      refine zz_top2 (fun v_10 => ?_)
      refine zm_st_5 h dMO_giveBack_41 (fun s_11 => ?_)
      exact zz_vret h dMO_giveBack_42
    · exact zz_sub (MO_giveBack_43_w hV h _ _) rfl
  · exact zz_sub (MO_giveBack_43_w hV h _ _) rfl
theorem MO_giveBack_c {l : Launch} {D : va_G} {ad : Nat → Nat} {cA : Nat → ClassId} {tb : Nat} (hV : zz_ok (zm_V l D ad cA tb)) (st : zz_S) : zz_C (zm_V l D ad cA tb) yMO_giveBack (Cond.code yMO_giveBack prog_10_method_19_code 4 none :: zt_T) { frames := 4, cells := 0, slots := 0, locals := 97 } zz_jv [.ref (ad 0)] st (MO_giveBack_f  st) := zz_met hV (by decide +kernel) rfl (Nat.le_of_ble_eq_true rfl) rfl (fun E h => MO_giveBack_w hV h  st)
def MO_leastFree_23 (x1 : Int32) (st : zz_S) : Option (Int32 × zz_S) := (if (6 : Int32) ≤ x1 then (some ((-1 : Int32), st)) else (some (x1, st)))
def MO_leastFree_2b (k2 : Int32 → zz_S → Option (Int32 × zz_S)) (x1 : Int32) (st : zz_S) : Option (Int32 × zz_S) := (if (6 : Int32) ≤ x1 then (MO_leastFree_23 x1 st) else (zz_gd (zz_in x1 6) (if (zz_ag st 5 x1.toNatClampNeg) = 0 then (MO_leastFree_23 x1 st) else (k2 (x1 + (1 : Int32)) st))))
def MO_leastFree_2 : Nat → Int32 → zz_S → Option (Int32 × zz_S)
  | 0 => fun _ _ => none
  | n + 1 => MO_leastFree_2b (MO_leastFree_2 n)
def MO_leastFree_f (st : zz_S) : Option (Int32 × zz_S) := (MO_leastFree_2 10 (0 : Int32) st)
set_option maxRecDepth 100000 in
set_option maxHeartbeats 4000000 in
theorem MO_leastFree_23_w {l : Launch} {D : va_G} {ad : Nat → Nat} {cA : Nat → ClassId} {tb : Nat} {E : zz_E} (hV : zz_ok (zm_V l D ad cA tb)) (h : zz_X (zm_V l D ad cA tb) E "FrameProcessorModel" prog_10_method_20_code 2 zt_T 0 0 (some .int)) (x1 : Int32) (st : zz_S) : zz_Z (zm_V l D ad cA tb) E 2 0 0 (zz_q (zm_V l D ad cA tb) E zz_ji) (MO_leastFree_23 x1 st) 23 [(1, .int x1)] [] st := by
  unfold MO_leastFree_23
  refine zz_iload_n h dMO_leastFree_23 rfl ?_
  refine zz_bipush (v := 6) h dMO_leastFree_24 zz_lb_6 ?_
  refine zz_icmp_ge h 33 dMO_leastFree_26 rfl ?_ ?_
  · refine zz_iconst (v := -1) h dMO_leastFree_33 zz_li_m1 ?_
    exact zz_iret h dMO_leastFree_34
  · refine zz_iload_n h dMO_leastFree_29 rfl ?_
    refine zz_goto h 34 dMO_leastFree_30 rfl ?_
    exact zz_iret h dMO_leastFree_34
set_option maxRecDepth 100000 in
set_option maxHeartbeats 4000000 in
theorem MO_leastFree_2b_w {l : Launch} {D : va_G} {ad : Nat → Nat} {cA : Nat → ClassId} {tb : Nat} {E : zz_E} (hV : zz_ok (zm_V l D ad cA tb)) (h : zz_X (zm_V l D ad cA tb) E "FrameProcessorModel" prog_10_method_20_code 2 zt_T 0 0 (some .int)) {k2 : Int32 → zz_S → Option (Int32 × zz_S)} (hk2 : ∀ (x1 : Int32) (st : zz_S), zz_Z (zm_V l D ad cA tb) E 2 0 0 (zz_q (zm_V l D ad cA tb) E zz_ji) (k2 x1 st) 2 [(0, .ref (ad 0)), (1, .int x1)] [] st) (x1 : Int32) (st : zz_S) : zz_Z (zm_V l D ad cA tb) E 2 0 0 (zz_q (zm_V l D ad cA tb) E zz_ji) (MO_leastFree_2b k2 x1 st) 2 [(0, .ref (ad 0)), (1, .int x1)] [] st := by
  unfold MO_leastFree_2b
  refine zz_iload_n h dMO_leastFree_2 rfl ?_
  refine zz_bipush (v := 6) h dMO_leastFree_3 zz_lb_6 ?_
  refine zz_icmp_ge h 23 dMO_leastFree_5 rfl ?_ ?_
  · exact zz_sub (MO_leastFree_23_w hV h _ _) rfl
  · refine zz_aload_n h dMO_leastFree_8 rfl ?_
    refine zm_g_MO_state h zi_MO zf_MO_23 dMO_leastFree_9 ?_
    refine zz_iload_n h dMO_leastFree_12 rfl ?_
    refine zm_ld_5 h dMO_leastFree_13 ?_
    refine zz_if_eq h 23 dMO_leastFree_14 rfl ?_ ?_
    · exact zz_sub (MO_leastFree_23_w hV h _ _) rfl
    · refine zz_iinc h (1 : Int32) dMO_leastFree_17 zz_li_1 rfl (Nat.le_of_ble_eq_true rfl) ?_
      refine zz_goto h 2 dMO_leastFree_20 rfl ?_
      exact zz_sub (hk2 _ _) rfl
theorem MO_leastFree_2_w {l : Launch} {D : va_G} {ad : Nat → Nat} {cA : Nat → ClassId} {tb : Nat} {E : zz_E} (hV : zz_ok (zm_V l D ad cA tb)) (h : zz_X (zm_V l D ad cA tb) E "FrameProcessorModel" prog_10_method_20_code 2 zt_T 0 0 (some .int)) : ∀ (n : Nat) (x1 : Int32) (st : zz_S), zz_Z (zm_V l D ad cA tb) E 2 0 0 (zz_q (zm_V l D ad cA tb) E zz_ji) (MO_leastFree_2 n x1 st) 2 [(0, .ref (ad 0)), (1, .int x1)] [] st
  | 0, _, _ => zz_none
  | n + 1, x1, st => MO_leastFree_2b_w hV h (MO_leastFree_2_w hV h n) x1 st
set_option maxRecDepth 100000 in
set_option maxHeartbeats 4000000 in
theorem MO_leastFree_w {l : Launch} {D : va_G} {ad : Nat → Nat} {cA : Nat → ClassId} {tb : Nat} {E : zz_E} (hV : zz_ok (zm_V l D ad cA tb)) (h : zz_X (zm_V l D ad cA tb) E "FrameProcessorModel" prog_10_method_20_code 2 zt_T 0 0 (some .int)) (st : zz_S) : zz_Z (zm_V l D ad cA tb) E 2 0 0 (zz_q (zm_V l D ad cA tb) E zz_ji) (MO_leastFree_f  st) 0 [(0, .ref (ad 0))] [] st := by
  unfold MO_leastFree_f
  refine zz_iconst (v := 0) h dMO_leastFree_0 zz_li_0 ?_
  refine zz_istore_n h dMO_leastFree_1 (Nat.le_of_ble_eq_true rfl) ?_
  exact zz_sub (MO_leastFree_2_w hV h _ _ _) rfl
theorem MO_leastFree_c {l : Launch} {D : va_G} {ad : Nat → Nat} {cA : Nat → ClassId} {tb : Nat} (hV : zz_ok (zm_V l D ad cA tb)) (st : zz_S) : zz_C (zm_V l D ad cA tb) yMO_leastFree (Cond.code yMO_leastFree prog_10_method_20_code 2 (some .int) :: zt_T) { frames := 0, cells := 0, slots := 0, locals := 0 } zz_ji [.ref (ad 0)] st (MO_leastFree_f  st) := zz_met hV (by decide +kernel) rfl (Nat.le_of_ble_eq_true rfl) rfl (fun E h => MO_leastFree_w hV h  st)
