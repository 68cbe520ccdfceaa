def MO_run_22b (k22 : Int32 → Int32 → zz_S → Option (Int32 × zz_S)) (x1 : Int32) (x2 : Int32) (st : zz_S) : Option (Int32 × zz_S) := (if (zz_sg st 0) = 0 then (if x1 ≤ x2 then (some (x2, st)) else (zz_bd (MO_first_f st) fun r_2 s_1 => (if r_2 < 0 then (some (x2, s_1)) else (zz_bd (MO_first_f s_1) fun r_4 s_3 => (zz_nm (zz_sp s_3 3 r_4) fun s_5 => (zz_bd (MO_instruction_f s_5) fun _ s_6 => (k22 x1 (x2 + (1 : Int32)) s_6))))))) else (some (x2, st)))
def MO_run_22 : Nat → Int32 → Int32 → zz_S → Option (Int32 × zz_S)
  | 0 => fun _ _ _ => none
  | n + 1 => MO_run_22b (MO_run_22 n)
def MO_run_17 (x1 : Int32) (y0 : Int32) (st : zz_S) : Option (Int32 × zz_S) := (zz_nm (zz_sp st 0 y0) fun s_7 => (MO_run_22 501 x1 (0 : Int32) s_7))
def MO_run_12 (x1 : Int32) (st : zz_S) : Option (Int32 × zz_S) := (MO_run_17 x1 (1 : Int32) st)
def MO_run_f (x1 : Int32) (st : zz_S) : Option (Int32 × zz_S) := (if x1 < 0 then (MO_run_12 x1 st) else (if x1 ≤ (500 : Int32) then (MO_run_17 x1 (0 : Int32) st) else (MO_run_12 x1 st)))
set_option maxRecDepth 100000 in
set_option maxHeartbeats 4000000 in
theorem MO_run_22b_w {l : Launch} {D : va_G} {ad : Nat → Nat} {cA : Nat → ClassId} {tb : Nat} {E : zz_E} (hV : zz_ok (zm_V l D ad cA tb)) (h : zz_X (zm_V l D ad cA tb) E "FrameProcessorModel" prog_10_method_38_code 3 zt_T 9 220 (some .int)) {k22 : Int32 → Int32 → zz_S → Option (Int32 × zz_S)} (hk22 : ∀ (x1 : Int32) (x2 : Int32) (st : zz_S), zz_Z (zm_V l D ad cA tb) E 3 0 0 (zz_q (zm_V l D ad cA tb) E zz_ji) (k22 x1 x2 st) 22 [(0, .ref (ad 0)), (1, .int x1), (2, .int x2)] [] st) (x1 : Int32) (x2 : Int32) (st : zz_S) : zz_Z (zm_V l D ad cA tb) E 3 0 0 (zz_q (zm_V l D ad cA tb) E zz_ji) (MO_run_22b k22 x1 x2 st) 22 [(0, .ref (ad 0)), (1, .int x1), (2, .int x2)] [] st := by
  unfold MO_run_22b
  refine zz_aload_n h dMO_run_22 rfl ?_
  refine zm_g_MO_thrown h zi_MO zf_MO_63 dMO_run_23 ?_
  refine zz_if_ne h 59 dMO_run_26 rfl ?_ ?_
  · refine zz_iload_n h dMO_run_29 rfl ?_
    refine zz_iload_n h dMO_run_30 rfl ?_
    refine zz_icmp_ge h 59 dMO_run_31 rfl ?_ ?_
    · refine zz_iload_n h dMO_run_59 rfl ?_
      exact zz_iret h dMO_run_60
    · refine zz_aload_n h dMO_run_34 rfl ?_
      refine zz_callV0i h 0 rfl rfl (MO_first_c hV _) MO_first_k zm_MO_222 rfl rfl ⟨Nat.le_of_ble_eq_true rfl, Nat.le_of_ble_eq_true rfl⟩ (Nat.le_of_ble_eq_true rfl) dMO_run_35 (fun r_2 s_1 => ?_)
      refine zz_if_lt h 59 dMO_run_38 rfl ?_ ?_
      · refine zz_iload_n h dMO_run_59 rfl ?_
        exact zz_iret h dMO_run_60
      · refine zz_aload_n h dMO_run_41 rfl ?_
        refine zz_aload_n h dMO_run_42 rfl ?_
        refine zz_callV0i h 0 rfl rfl (MO_first_c hV _) MO_first_k zm_MO_222 rfl rfl ⟨Nat.le_of_ble_eq_true rfl, Nat.le_of_ble_eq_true rfl⟩ (Nat.le_of_ble_eq_true rfl) dMO_run_43 (fun r_4 s_3 => ?_)
        refine zm_p_MO_me h zi_MO zf_MO_113 dMO_run_46 (fun s_5 => ?_)
        refine zz_aload_n h dMO_run_49 rfl ?_
        refine zz_callV0v h 0 rfl rfl (MO_instruction_c hV _) MO_instruction_k zm_MO_225 rfl rfl ⟨Nat.le_of_ble_eq_true rfl, Nat.le_of_ble_eq_true rfl⟩ (Nat.le_of_ble_eq_true rfl) dMO_run_50 (fun _ s_6 => ?_)
        refine zz_iinc h (1 : Int32) dMO_run_53 zz_li_1 rfl (Nat.le_of_ble_eq_true rfl) ?_
        refine zz_goto h 22 dMO_run_56 rfl ?_
        exact zz_sub (hk22 _ _ _) rfl
  · refine zz_iload_n h dMO_run_59 rfl ?_
    exact zz_iret h dMO_run_60
theorem MO_run_22_w {l : Launch} {D : va_G} {ad : Nat → Nat} {cA : Nat → ClassId} {tb : Nat} {E : zz_E} (hV : zz_ok (zm_V l D ad cA tb)) (h : zz_X (zm_V l D ad cA tb) E "FrameProcessorModel" prog_10_method_38_code 3 zt_T 9 220 (some .int)) : ∀ (n : Nat) (x1 : Int32) (x2 : Int32) (st : zz_S), zz_Z (zm_V l D ad cA tb) E 3 0 0 (zz_q (zm_V l D ad cA tb) E zz_ji) (MO_run_22 n x1 x2 st) 22 [(0, .ref (ad 0)), (1, .int x1), (2, .int x2)] [] st
  | 0, _, _, _ => zz_none
  | n + 1, x1, x2, st => MO_run_22b_w hV h (MO_run_22_w hV h n) x1 x2 st
set_option maxRecDepth 100000 in
set_option maxHeartbeats 4000000 in
theorem MO_run_17_w {l : Launch} {D : va_G} {ad : Nat → Nat} {cA : Nat → ClassId} {tb : Nat} {E : zz_E} (hV : zz_ok (zm_V l D ad cA tb)) (h : zz_X (zm_V l D ad cA tb) E "FrameProcessorModel" prog_10_method_38_code 3 zt_T 9 220 (some .int)) (x1 : Int32) (y0 : Int32) (st : zz_S) : zz_Z (zm_V l D ad cA tb) E 3 0 0 (zz_q (zm_V l D ad cA tb) E zz_ji) (MO_run_17 x1 y0 st) 17 [(0, .ref (ad 0)), (1, .int x1)] [.int y0, .ref (ad 0)] st := by
  unfold MO_run_17
  refine zm_p_MO_thrown h zi_MO zf_MO_63 dMO_run_17 (fun s_7 => ?_)
  refine zz_iconst (v := 0) h dMO_run_20 zz_li_0 ?_
  refine zz_istore_n h dMO_run_21 (Nat.le_of_ble_eq_true rfl) ?_
  exact zz_sub (MO_run_22_w hV h _ _ _ _) rfl
set_option maxRecDepth 100000 in
set_option maxHeartbeats 4000000 in
theorem MO_run_12_w {l : Launch} {D : va_G} {ad : Nat → Nat} {cA : Nat → ClassId} {tb : Nat} {E : zz_E} (hV : zz_ok (zm_V l D ad cA tb)) (h : zz_X (zm_V l D ad cA tb) E "FrameProcessorModel" prog_10_method_38_code 3 zt_T 9 220 (some .int)) (x1 : Int32) (st : zz_S) : zz_Z (zm_V l D ad cA tb) E 3 0 0 (zz_q (zm_V l D ad cA tb) E zz_ji) (MO_run_12 x1 st) 12 [(0, .ref (ad 0)), (1, .int x1)] [.ref (ad 0)] st := by
  unfold MO_run_12
  refine zz_iconst (v := 1) h dMO_run_12 zz_li_1 ?_
  refine zz_goto h 17 dMO_run_13 rfl ?_
  exact zz_sub (MO_run_17_w hV h _ _ _) rfl
set_option maxRecDepth 100000 in
set_option maxHeartbeats 4000000 in
theorem MO_run_w {l : Launch} {D : va_G} {ad : Nat → Nat} {cA : Nat → ClassId} {tb : Nat} {E : zz_E} (hV : zz_ok (zm_V l D ad cA tb)) (h : zz_X (zm_V l D ad cA tb) E "FrameProcessorModel" prog_10_method_38_code 3 zt_T 9 220 (some .int)) (x1 : Int32) (st : zz_S) : zz_Z (zm_V l D ad cA tb) E 3 0 0 (zz_q (zm_V l D ad cA tb) E zz_ji) (MO_run_f x1 st) 0 [(0, .ref (ad 0)), (1, .int x1)] [] st := by
  unfold MO_run_f
  refine zz_aload_n h dMO_run_0 rfl ?_
  refine zz_iload_n h dMO_run_1 rfl ?_
  refine zz_if_lt h 12 dMO_run_2 rfl ?_ ?_
  · exact zz_sub (MO_run_12_w hV h _ _) rfl
  · refine zz_iload_n h dMO_run_5 rfl ?_
    refine zz_sipush (v := 500) h dMO_run_6 zz_ls_500 ?_
    refine zz_icmp_le h 16 dMO_run_9 rfl ?_ ?_
    · refine zz_iconst (v := 0) h dMO_run_16 zz_li_0 ?_
      exact zz_sub (MO_run_17_w hV h _ _ _) rfl
    · exact zz_sub (MO_run_12_w hV h _ _) rfl
theorem MO_run_c {l : Launch} {D : va_G} {ad : Nat → Nat} {cA : Nat → ClassId} {tb : Nat} (hV : zz_ok (zm_V l D ad cA tb)) (x1 : Int32) (st : zz_S) : zz_C (zm_V l D ad cA tb) yMO_run (Cond.code yMO_run prog_10_method_38_code 3 (some .int) :: zt_T) { frames := 9, cells := 0, slots := 0, locals := 220 } zz_ji [.ref (ad 0), .int x1] st (MO_run_f x1 st) := zz_met hV (by decide +kernel) rfl (Nat.le_of_ble_eq_true rfl) rfl (fun E h => MO_run_w hV h x1 st)
def MO_isNumber_f (x0 : Int32) (x1 : Int32) (st : zz_S) : Option (Int32 × zz_S) := (if x0 < 0 then (some ((0 : Int32), st)) else (if x1 ≤ x0 then (some ((0 : Int32), st)) else (some ((1 : Int32), st))))
set_option maxRecDepth 100000 in
set_option maxHeartbeats 4000000 in
theorem MO_isNumber_w {l : Launch} {D : va_G} {ad : Nat → Nat} {cA : Nat → ClassId} {tb : Nat} {E : zz_E} (hV : zz_ok (zm_V l D ad cA tb)) (h : zz_X (zm_V l D ad cA tb) E "FrameProcessorModel" prog_10_method_39_code 2 zt_T 0 0 (some .boolean)) (x0 : Int32) (x1 : Int32) (st : zz_S) : zz_Z (zm_V l D ad cA tb) E 2 0 0 (zz_q (zm_V l D ad cA tb) E zz_ji) (MO_isNumber_f x0 x1 st) 0 [(0, .int x0), (1, .int x1)] [] st := by
  unfold MO_isNumber_f
  refine zz_iload_n h dMO_isNumber_0 rfl ?_
  refine zz_if_lt h 13 dMO_isNumber_1 rfl ?_ ?_
  · refine zz_iconst (v := 0) h dMO_isNumber_13 zz_li_0 ?_
    exact zz_zret h dMO_isNumber_14 (by decide +kernel)
  · refine zz_iload_n h dMO_isNumber_4 rfl ?_
    refine zz_iload_n h dMO_isNumber_5 rfl ?_
    refine zz_icmp_ge h 13 dMO_isNumber_6 rfl ?_ ?_
    · refine zz_iconst (v := 0) h dMO_isNumber_13 zz_li_0 ?_
      exact zz_zret h dMO_isNumber_14 (by decide +kernel)
    · refine zz_iconst (v := 1) h dMO_isNumber_9 zz_li_1 ?_
      refine zz_goto h 14 dMO_isNumber_10 rfl ?_
      exact zz_zret h dMO_isNumber_14 (by decide +kernel)
theorem MO_isNumber_c {l : Launch} {D : va_G} {ad : Nat → Nat} {cA : Nat → ClassId} {tb : Nat} (hV : zz_ok (zm_V l D ad cA tb)) (x0 : Int32) (x1 : Int32) (st : zz_S) : zz_C (zm_V l D ad cA tb) yMO_isNumber (Cond.code yMO_isNumber prog_10_method_39_code 2 (some .boolean) :: zt_T) { frames := 0, cells := 0, slots := 0, locals := 0 } zz_ji [.int x0, .int x1] st (MO_isNumber_f x0 x1 st) := zz_met hV (by decide +kernel) rfl (Nat.le_of_ble_eq_true rfl) rfl (fun E h => MO_isNumber_w hV h x0 x1 st)
def MO_map_26 (x1 : Int32) (x2 : Int32) (y0 : Int32) (st : zz_S) : Option (Unit × zz_S) := (zz_nm (zz_sp st 0 y0) fun s_1 => (if (zz_sg s_1 0) = 0 then (zz_gd (zz_in x1 16) (zz_nm (zz_ap s_1 1 x1.toNatClampNeg x2) fun s_2 => (some ((), s_2)))) else (some ((), s_1))))
def MO_map_21 (x1 : Int32) (x2 : Int32) (st : zz_S) : Option (Unit × zz_S) := (MO_map_26 x1 x2 (1 : Int32) st)
def MO_map_f (x1 : Int32) (x2 : Int32) (st : zz_S) : Option (Unit × zz_S) := (zz_bd (MO_isNumber_f x1 (16 : Int32) st) fun r_4 s_3 => (if r_4 = 0 then (MO_map_21 x1 x2 s_3) else (if x2 < (-1 : Int32) then (MO_map_21 x1 x2 s_3) else (if x2 ≤ (11 : Int32) then (MO_map_26 x1 x2 (0 : Int32) s_3) else (MO_map_21 x1 x2 s_3)))))
set_option maxRecDepth 100000 in
set_option maxHeartbeats 4000000 in
theorem MO_map_26_w {l : Launch} {D : va_G} {ad : Nat → Nat} {cA : Nat → ClassId} {tb : Nat} {E : zz_E} (hV : zz_ok (zm_V l D ad cA tb)) (h : zz_X (zm_V l D ad cA tb) E "FrameProcessorModel" prog_10_method_40_code 3 zt_T 1 21 none) (x1 : Int32) (x2 : Int32) (y0 : Int32) (st : zz_S) : zz_Z (zm_V l D ad cA tb) E 3 0 0 (zz_q (zm_V l D ad cA tb) E zz_jv) (MO_map_26 x1 x2 y0 st) 26 [(0, .ref (ad 0)), (1, .int x1), (2, .int x2)] [.int y0, .ref (ad 0)] st := by
  unfold MO_map_26
  refine zm_p_MO_thrown h zi_MO zf_MO_63 dMO_map_26 (fun s_1 => ?_)
  refine zz_aload_n h dMO_map_29 rfl ?_
  refine zm_g_MO_thrown h zi_MO zf_MO_63 dMO_map_30 ?_
  refine zz_if_ne h 43 dMO_map_33 rfl ?_ ?_
  · refine zz_aload_n h dMO_map_36 rfl ?_
    refine zm_g_MO_map h zi_MO zf_MO_7 dMO_map_37 ?_
    refine zz_iload_n h dMO_map_40 rfl ?_
    refine zz_iload_n h dMO_map_41 rfl ?_
    refine zm_st_1 h dMO_map_42 (fun s_2 => ?_)
    exact zz_vret h dMO_map_43
  · exact zz_vret h dMO_map_43
set_option maxRecDepth 100000 in
set_option maxHeartbeats 4000000 in
theorem MO_map_21_w {l : Launch} {D : va_G} {ad : Nat → Nat} {cA : Nat → ClassId} {tb : Nat} {E : zz_E} (hV : zz_ok (zm_V l D ad cA tb)) (h : zz_X (zm_V l D ad cA tb) E "FrameProcessorModel" prog_10_method_40_code 3 zt_T 1 21 none) (x1 : Int32) (x2 : Int32) (st : zz_S) : zz_Z (zm_V l D ad cA tb) E 3 0 0 (zz_q (zm_V l D ad cA tb) E zz_jv) (MO_map_21 x1 x2 st) 21 [(0, .ref (ad 0)), (1, .int x1), (2, .int x2)] [.ref (ad 0)] st := by
  unfold MO_map_21
  refine zz_iconst (v := 1) h dMO_map_21 zz_li_1 ?_
  refine zz_goto h 26 dMO_map_22 rfl ?_
  exact zz_sub (MO_map_26_w hV h _ _ _ _) rfl
set_option maxRecDepth 100000 in
set_option maxHeartbeats 4000000 in
theorem MO_map_w {l : Launch} {D : va_G} {ad : Nat → Nat} {cA : Nat → ClassId} {tb : Nat} {E : zz_E} (hV : zz_ok (zm_V l D ad cA tb)) (h : zz_X (zm_V l D ad cA tb) E "FrameProcessorModel" prog_10_method_40_code 3 zt_T 1 21 none) (x1 : Int32) (x2 : Int32) (st : zz_S) : zz_Z (zm_V l D ad cA tb) E 3 0 0 (zz_q (zm_V l D ad cA tb) E zz_jv) (MO_map_f x1 x2 st) 0 [(0, .ref (ad 0)), (1, .int x1), (2, .int x2)] [] st := by
  unfold MO_map_f
  refine zz_aload_n h dMO_map_0 rfl ?_
  refine zz_iload_n h dMO_map_1 rfl ?_
  refine zz_bipush (v := 16) h dMO_map_2 zz_lb_16 ?_
  refine zz_callS2i h (MO_isNumber_c hV _ _ _) MO_isNumber_k zm_MO_228 rfl rfl ⟨Nat.le_of_ble_eq_true rfl, Nat.le_of_ble_eq_true rfl⟩ (Nat.le_of_ble_eq_true rfl) dMO_map_4 (fun r_4 s_3 => ?_)
  refine zz_if_eq h 21 dMO_map_7 rfl ?_ ?_
  · exact zz_sub (MO_map_21_w hV h _ _ _) rfl
  · refine zz_iload_n h dMO_map_10 rfl ?_
    refine zz_iconst (v := -1) h dMO_map_11 zz_li_m1 ?_
    refine zz_icmp_lt h 21 dMO_map_12 rfl ?_ ?_
    · exact zz_sub (MO_map_21_w hV h _ _ _) rfl
    · refine zz_iload_n h dMO_map_15 rfl ?_
      refine zz_bipush (v := 11) h dMO_map_16 zz_lb_11 ?_
      refine zz_icmp_le h 25 dMO_map_18 rfl ?_ ?_
      · refine zz_iconst (v := 0) h dMO_map_25 zz_li_0 ?_
        exact zz_sub (MO_map_26_w hV h _ _ _ _) rfl
      · exact zz_sub (MO_map_21_w hV h _ _ _) rfl
theorem MO_map_c {l : Launch} {D : va_G} {ad : Nat → Nat} {cA : Nat → ClassId} {tb : Nat} (hV : zz_ok (zm_V l D ad cA tb)) (x1 : Int32) (x2 : Int32) (st : zz_S) : zz_C (zm_V l D ad cA tb) yMO_map (Cond.code yMO_map prog_10_method_40_code 3 none :: zt_T) { frames := 1, cells := 0, slots := 0, locals := 21 } zz_jv [.ref (ad 0), .int x1, .int x2] st (MO_map_f x1 x2 st) := zz_met hV (by decide +kernel) rfl (Nat.le_of_ble_eq_true rfl) rfl (fun E h => MO_map_w hV h x1 x2 st)
def MO_protect_15 (x1 : Int32) (x2 : Int32) (y0 : Int32) (st : zz_S) : Option (Unit × zz_S) := (zz_nm (zz_sp st 0 y0) fun s_1 => (if (zz_sg s_1 0) = 0 then (zz_gd (zz_in x1 16) (zz_nm (zz_ap s_1 4 x1.toNatClampNeg (zz_bn x2)) fun s_2 => (some ((), s_2)))) else (some ((), s_1))))
def MO_protect_f (x1 : Int32) (x2 : Int32) (st : zz_S) : Option (Unit × zz_S) := (zz_bd (MO_isNumber_f x1 (16 : Int32) st) fun r_4 s_3 => (if r_4 = 0 then (MO_protect_15 x1 x2 (1 : Int32) s_3) else (MO_protect_15 x1 x2 (0 : Int32) s_3)))
set_option maxRecDepth 100000 in
set_option maxHeartbeats 4000000 in
theorem MO_protect_15_w {l : Launch} {D : va_G} {ad : Nat → Nat} {cA : Nat → ClassId} {tb : Nat} {E : zz_E} (hV : zz_ok (zm_V l D ad cA tb)) (h : zz_X (zm_V l D ad cA tb) E "FrameProcessorModel" prog_10_method_41_code 3 zt_T 1 21 none) (x1 : Int32) (x2 : Int32) (y0 : Int32) (st : zz_S) : zz_Z (zm_V l D ad cA tb) E 3 0 0 (zz_q (zm_V l D ad cA tb) E zz_jv) (MO_protect_15 x1 x2 y0 st) 15 [(0, .ref (ad 0)), (1, .int x1), (2, .int x2)] [.int y0, .ref (ad 0)] st := by
  unfold MO_protect_15
  refine zm_p_MO_thrown h zi_MO zf_MO_63 dMO_protect_15 (fun s_1 => ?_)
  refine zz_aload_n h dMO_protect_18 rfl ?_
  refine zm_g_MO_thrown h zi_MO zf_MO_63 dMO_protect_19 ?_
  refine zz_if_ne h 32 dMO_protect_22 rfl ?_ ?_
  · refine zz_aload_n h dMO_protect_25 rfl ?_
    refine zm_g_MO_guarded h zi_MO zf_MO_19 dMO_protect_26 ?_
    refine zz_iload_n h dMO_protect_29 rfl ?_
    refine zz_iload_n h dMO_protect_30 rfl ?_
    refine zm_st_4 h dMO_protect_31 (fun s_2 => ?_)
    exact zz_vret h dMO_protect_32
  · exact zz_vret h dMO_protect_32
set_option maxRecDepth 100000 in
set_option maxHeartbeats 4000000 in
theorem MO_protect_w {l : Launch} {D : va_G} {ad : Nat → Nat} {cA : Nat → ClassId} {tb : Nat} {E : zz_E} (hV : zz_ok (zm_V l D ad cA tb)) (h : zz_X (zm_V l D ad cA tb) E "FrameProcessorModel" prog_10_method_41_code 3 zt_T 1 21 none) (x1 : Int32) (x2 : Int32) (st : zz_S) : zz_Z (zm_V l D ad cA tb) E 3 0 0 (zz_q (zm_V l D ad cA tb) E zz_jv) (MO_protect_f x1 x2 st) 0 [(0, .ref (ad 0)), (1, .int x1), (2, .int x2)] [] st := by
  unfold MO_protect_f
  refine zz_aload_n h dMO_protect_0 rfl ?_
  refine zz_iload_n h dMO_protect_1 rfl ?_
  refine zz_bipush (v := 16) h dMO_protect_2 zz_lb_16 ?_
  refine zz_callS2i h (MO_isNumber_c hV _ _ _) MO_isNumber_k zm_MO_228 rfl rfl ⟨Nat.le_of_ble_eq_true rfl, Nat.le_of_ble_eq_true rfl⟩ (Nat.le_of_ble_eq_true rfl) dMO_protect_4 (fun r_4 s_3 => ?_)
  refine zz_if_eq h 14 dMO_protect_7 rfl ?_ ?_
  · refine zz_iconst (v := 1) h dMO_protect_14 zz_li_1 ?_
    exact zz_sub (MO_protect_15_w hV h _ _ _ _) rfl
  · refine zz_iconst (v := 0) h dMO_protect_10 zz_li_0 ?_
    refine zz_goto h 15 dMO_protect_11 rfl ?_
    exact zz_sub (MO_protect_15_w hV h _ _ _ _) rfl
theorem MO_protect_c {l : Launch} {D : va_G} {ad : Nat → Nat} {cA : Nat → ClassId} {tb : Nat} (hV : zz_ok (zm_V l D ad cA tb)) (x1 : Int32) (x2 : Int32) (st : zz_S) : zz_C (zm_V l D ad cA tb) yMO_protect (Cond.code yMO_protect prog_10_method_41_code 3 none :: zt_T) { frames := 1, cells := 0, slots := 0, locals := 21 } zz_jv [.ref (ad 0), .int x1, .int x2] st (MO_protect_f x1 x2 st) := zz_met hV (by decide +kernel) rfl (Nat.le_of_ble_eq_true rfl) rfl (fun E h => MO_protect_w hV h x1 x2 st)
def MO_noted_15 (x1 : Int32) (y0 : Int32) (st : zz_S) : Option (Int32 × zz_S) := (zz_nm (zz_sp st 0 y0) fun s_1 => (if (zz_sg s_1 0) ≤ 0 then (zz_gd (zz_in x1 12) (zz_nm (zz_ag s_1 2 x1.toNatClampNeg) fun v_2 => (zz_gd (zz_in x1 12) (zz_nm (zz_ap s_1 2 x1.toNatClampNeg (0 : Int32)) fun s_3 => (some (v_2, s_3)))))) else (some ((0 : Int32), s_1))))
def MO_noted_f (x1 : Int32) (st : zz_S) : Option (Int32 × zz_S) := (zz_bd (MO_isNumber_f x1 (12 : Int32) st) fun r_5 s_4 => (if r_5 = 0 then (MO_noted_15 x1 (1 : Int32) s_4) else (MO_noted_15 x1 (0 : Int32) s_4)))
set_option maxRecDepth 100000 in
set_option maxHeartbeats 4000000 in
theorem MO_noted_15_w {l : Launch} {D : va_G} {ad : Nat → Nat} {cA : Nat → ClassId} {tb : Nat} {E : zz_E} (hV : zz_ok (zm_V l D ad cA tb)) (h : zz_X (zm_V l D ad cA tb) E "FrameProcessorModel" prog_10_method_42_code 3 zt_T 1 21 (some .int)) (x1 : Int32) (y0 : Int32) (st : zz_S) : zz_Z (zm_V l D ad cA tb) E 3 0 0 (zz_q (zm_V l D ad cA tb) E zz_ji) (MO_noted_15 x1 y0 st) 15 [(0, .ref (ad 0)), (1, .int x1)] [.int y0, .ref (ad 0)] st := by
  unfold MO_noted_15
  refine zm_p_MO_thrown h zi_MO zf_MO_63 dMO_noted_15 (fun s_1 => ?_)
  refine zz_aload_n h dMO_noted_18 rfl ?_
  refine zm_g_MO_thrown h zi_MO zf_MO_63 dMO_noted_19 ?_
  refine zz_if_le h 27 dMO_noted_22 rfl ?_ ?_
  · refine zz_aload_n h dMO_noted_27 rfl ?_
    refine zm_g_MO_notes h zi_MO zf_MO_13 dMO_noted_28 ?_
    refine zz_iload_n h dMO_noted_31 rfl ?_
    refine zm_ld_2 h dMO_noted_32 ?_
    refine zz_topi (fun v_2 => ?_)
    refine zz_istore_n h dMO_noted_33 (Nat.le_of_ble_eq_true rfl) ?_
    refine zz_aload_n h dMO_noted_34 rfl ?_
    refine zm_g_MO_notes h zi_MO zf_MO_13 dMO_noted_35 ?_
    refine zz_iload_n h dMO_noted_38 rfl ?_
    refine zz_iconst (v := 0) h dMO_noted_39 zz_li_0 ?_
    refine zm_st_2 h dMO_noted_40 (fun s_3 => ?_)
    refine zz_iload_n h dMO_noted_41 rfl ?_
    exact zz_iret h dMO_noted_42
  · refine zz_iconst (v := 0) h dMO_noted_25 zz_li_0 ?_
    exact zz_iret h dMO_noted_26
set_option maxRecDepth 100000 in
set_option maxHeartbeats 4000000 in
theorem MO_noted_w {l : Launch} {D : va_G} {ad : Nat → Nat} {cA : Nat → ClassId} {tb : Nat} {E : zz_E} (hV : zz_ok (zm_V l D ad cA tb)) (h : zz_X (zm_V l D ad cA tb) E "FrameProcessorModel" prog_10_method_42_code 3 zt_T 1 21 (some .int)) (x1 : Int32) (st : zz_S) : zz_Z (zm_V l D ad cA tb) E 3 0 0 (zz_q (zm_V l D ad cA tb) E zz_ji) (MO_noted_f x1 st) 0 [(0, .ref (ad 0)), (1, .int x1)] [] st := by
  unfold MO_noted_f
  refine zz_aload_n h dMO_noted_0 rfl ?_
  refine zz_iload_n h dMO_noted_1 rfl ?_
  refine zz_bipush (v := 12) h dMO_noted_2 zz_lb_12 ?_
  refine zz_callS2i h (MO_isNumber_c hV _ _ _) MO_isNumber_k zm_MO_228 rfl rfl ⟨Nat.le_of_ble_eq_true rfl, Nat.le_of_ble_eq_true rfl⟩ (Nat.le_of_ble_eq_true rfl) dMO_noted_4 (fun r_5 s_4 => ?_)
  refine zz_if_eq h 14 dMO_noted_7 rfl ?_ ?_
  · refine zz_iconst (v := 1) h dMO_noted_14 zz_li_1 ?_
    exact zz_sub (MO_noted_15_w hV h _ _ _) rfl
  · refine zz_iconst (v := 0) h dMO_noted_10 zz_li_0 ?_
    refine zz_goto h 15 dMO_noted_11 rfl ?_
    exact zz_sub (MO_noted_15_w hV h _ _ _) rfl
theorem MO_noted_c {l : Launch} {D : va_G} {ad : Nat → Nat} {cA : Nat → ClassId} {tb : Nat} (hV : zz_ok (zm_V l D ad cA tb)) (x1 : Int32) (st : zz_S) : zz_C (zm_V l D ad cA tb) yMO_noted (Cond.code yMO_noted prog_10_method_42_code 3 (some .int) :: zt_T) { frames := 1, cells := 0, slots := 0, locals := 21 } zz_ji [.ref (ad 0), .int x1] st (MO_noted_f x1 st) := zz_met hV (by decide +kernel) rfl (Nat.le_of_ble_eq_true rfl) rfl (fun E h => MO_noted_w hV h x1 st)
def MO_poke_28 (x1 : Int32) (x2 : Int32) (y0 : Int32) (st : zz_S) : Option (Unit × zz_S) := (zz_nm (zz_sp st 0 y0) fun s_1 => (if (zz_sg s_1 0) = 0 then (zz_bd (MO_at_f x1 s_1) fun r_3 s_2 => (zz_bd (MO_low_f x2 s_2) fun r_5 s_4 => (zz_gd (zz_in r_3 3072) (zz_nm (zz_ap s_4 3 r_3.toNatClampNeg r_5) fun s_6 => (some ((), s_6)))))) else (some ((), s_1))))
def MO_poke_f (x1 : Int32) (x2 : Int32) (st : zz_S) : Option (Unit × zz_S) := (zz_bd (MO_isNumber_f x1 (4096 : Int32) st) fun r_8 s_7 => (if r_8 = 0 then (MO_poke_28 x1 x2 (1 : Int32) s_7) else (zz_bd (MO_at_f x1 s_7) fun r_10 s_9 => (if 0 ≤ r_10 then (MO_poke_28 x1 x2 (0 : Int32) s_9) else (MO_poke_28 x1 x2 (2 : Int32) s_9)))))
set_option maxRecDepth 100000 in
set_option maxHeartbeats 4000000 in
theorem MO_poke_28_w {l : Launch} {D : va_G} {ad : Nat → Nat} {cA : Nat → ClassId} {tb : Nat} {E : zz_E} (hV : zz_ok (zm_V l D ad cA tb)) (h : zz_X (zm_V l D ad cA tb) E "FrameProcessorModel" prog_10_method_43_code 3 zt_T 1 22 none) (x1 : Int32) (x2 : Int32) (y0 : Int32) (st : zz_S) : zz_Z (zm_V l D ad cA tb) E 3 0 0 (zz_q (zm_V l D ad cA tb) E zz_jv) (MO_poke_28 x1 x2 y0 st) 28 [(0, .ref (ad 0)), (1, .int x1), (2, .int x2)] [.int y0, .ref (ad 0)] st := by
  unfold MO_poke_28
  refine zm_p_MO_thrown h zi_MO zf_MO_63 dMO_poke_28 (fun s_1 => ?_)
  refine zz_aload_n h dMO_poke_31 rfl ?_
  refine zm_g_MO_thrown h zi_MO zf_MO_63 dMO_poke_32 ?_
  refine zz_if_ne h 52 dMO_poke_35 rfl ?_ ?_
  · refine zz_aload_n h dMO_poke_38 rfl ?_
    refine zm_g_MO_words h zi_MO zf_MO_16 dMO_poke_39 ?_
    refine zz_aload_n h dMO_poke_42 rfl ?_
    refine zz_iload_n h dMO_poke_43 rfl ?_
    refine zz_callV1i h 0 rfl rfl (MO_at_c hV _ _) MO_at_k zm_MO_71 rfl rfl ⟨Nat.le_of_ble_eq_true rfl, Nat.le_of_ble_eq_true rfl⟩ (Nat.le_of_ble_eq_true rfl) dMO_poke_44 (fun r_3 s_2 => ?_)
    refine zz_iload_n h dMO_poke_47 rfl ?_
    refine zz_callS1i h (MO_low_c hV _ _) MO_low_k zm_MO_82 rfl rfl ⟨Nat.le_of_ble_eq_true rfl, Nat.le_of_ble_eq_true rfl⟩ (Nat.le_of_ble_eq_true rfl) dMO_poke_48 (fun r_5 s_4 => ?_)
    refine zm_st_3 h dMO_poke_51 (fun s_6 => ?_)
    exact zz_vret h dMO_poke_52
  · exact zz_vret h dMO_poke_52
set_option maxRecDepth 100000 in
set_option maxHeartbeats 4000000 in
theorem MO_poke_w {l : Launch} {D : va_G} {ad : Nat → Nat} {cA : Nat → ClassId} {tb : Nat} {E : zz_E} (hV : zz_ok (zm_V l D ad cA tb)) (h : zz_X (zm_V l D ad cA tb) E "FrameProcessorModel" prog_10_method_43_code 3 zt_T 1 22 none) (x1 : Int32) (x2 : Int32) (st : zz_S) : zz_Z (zm_V l D ad cA tb) E 3 0 0 (zz_q (zm_V l D ad cA tb) E zz_jv) (MO_poke_f x1 x2 st) 0 [(0, .ref (ad 0)), (1, .int x1), (2, .int x2)] [] st := by
  unfold MO_poke_f
  refine zz_aload_n h dMO_poke_0 rfl ?_
  refine zz_iload_n h dMO_poke_1 rfl ?_
  refine zz_sipush (v := 4096) h dMO_poke_2 zz_ls_4096 ?_
  refine zz_callS2i h (MO_isNumber_c hV _ _ _) MO_isNumber_k zm_MO_228 rfl rfl ⟨Nat.le_of_ble_eq_true rfl, Nat.le_of_ble_eq_true rfl⟩ (Nat.le_of_ble_eq_true rfl) dMO_poke_5 (fun r_8 s_7 => ?_)
  refine zz_if_ne h 15 dMO_poke_8 rfl ?_ ?_
  · refine zz_iconst (v := 1) h dMO_poke_11 zz_li_1 ?_
    refine zz_goto h 28 dMO_poke_12 rfl ?_
    exact zz_sub (MO_poke_28_w hV h _ _ _ _) rfl
  · refine zz_aload_n h dMO_poke_15 rfl ?_
    refine zz_iload_n h dMO_poke_16 rfl ?_
    refine zz_callV1i h 0 rfl rfl (MO_at_c hV _ _) MO_at_k zm_MO_71 rfl rfl ⟨Nat.le_of_ble_eq_true rfl, Nat.le_of_ble_eq_true rfl⟩ (Nat.le_of_ble_eq_true rfl) dMO_poke_17 (fun r_10 s_9 => ?_)
    refine zz_if_ge h 27 dMO_poke_20 rfl ?_ ?_
    · refine zz_iconst (v := 0) h dMO_poke_27 zz_li_0 ?_
      exact zz_sub (MO_poke_28_w hV h _ _ _ _) rfl
    · refine zz_iconst (v := 2) h dMO_poke_23 zz_li_2 ?_
      refine zz_goto h 28 dMO_poke_24 rfl ?_
      exact zz_sub (MO_poke_28_w hV h _ _ _ _) rfl
theorem MO_poke_c {l : Launch} {D : va_G} {ad : Nat → Nat} {cA : Nat → ClassId} {tb : Nat} (hV : zz_ok (zm_V l D ad cA tb)) (x1 : Int32) (x2 : Int32) (st : zz_S) : zz_C (zm_V l D ad cA tb) yMO_poke (Cond.code yMO_poke prog_10_method_43_code 3 none :: zt_T) { frames := 1, cells := 0, slots := 0, locals := 22 } zz_jv [.ref (ad 0), .int x1, .int x2] st (MO_poke_f x1 x2 st) := zz_met hV (by decide +kernel) rfl (Nat.le_of_ble_eq_true rfl) rfl (fun E h => MO_poke_w hV h x1 x2 st)
def MO_peek_28 (x1 : Int32) (y0 : Int32) (st : zz_S) : Option (Int32 × zz_S) := (zz_nm (zz_sp st 0 y0) fun s_1 => (if (zz_sg s_1 0) = 0 then (zz_bd (MO_at_f x1 s_1) fun r_3 s_2 => (zz_gd (zz_in r_3 3072) (some ((zz_ag s_2 3 r_3.toNatClampNeg), s_2)))) else (some ((0 : Int32), s_1))))
def MO_peek_f (x1 : Int32) (st : zz_S) : Option (Int32 × zz_S) := (zz_bd (MO_isNumber_f x1 (4096 : Int32) st) fun r_5 s_4 => (if r_5 = 0 then (MO_peek_28 x1 (1 : Int32) s_4) else (zz_bd (MO_at_f x1 s_4) fun r_7 s_6 => (if 0 ≤ r_7 then (MO_peek_28 x1 (0 : Int32) s_6) else (MO_peek_28 x1 (2 : Int32) s_6)))))
set_option maxRecDepth 100000 in
set_option maxHeartbeats 4000000 in
theorem MO_peek_28_w {l : Launch} {D : va_G} {ad : Nat → Nat} {cA : Nat → ClassId} {tb : Nat} {E : zz_E} (hV : zz_ok (zm_V l D ad cA tb)) (h : zz_X (zm_V l D ad cA tb) E "FrameProcessorModel" prog_10_method_44_code 2 zt_T 1 22 (some .int)) (x1 : Int32) (y0 : Int32) (st : zz_S) : zz_Z (zm_V l D ad cA tb) E 2 0 0 (zz_q (zm_V l D ad cA tb) E zz_ji) (MO_peek_28 x1 y0 st) 28 [(0, .ref (ad 0)), (1, .int x1)] [.int y0, .ref (ad 0)] st := by
  unfold MO_peek_28
  refine zm_p_MO_thrown h zi_MO zf_MO_63 dMO_peek_28 (fun s_1 => ?_)
  refine zz_aload_n h dMO_peek_31 rfl ?_
  refine zm_g_MO_thrown h zi_MO zf_MO_63 dMO_peek_32 ?_
  refine zz_if_ne h 51 dMO_peek_35 rfl ?_ ?_
  · refine zz_aload_n h dMO_peek_38 rfl ?_
    refine zm_g_MO_words h zi_MO zf_MO_16 dMO_peek_39 ?_
    refine zz_aload_n h dMO_peek_42 rfl ?_
    refine zz_iload_n h dMO_peek_43 rfl ?_
    refine zz_callV1i h 0 rfl rfl (MO_at_c hV _ _) MO_at_k zm_MO_71 rfl rfl ⟨Nat.le_of_ble_eq_true rfl, Nat.le_of_ble_eq_true rfl⟩ (Nat.le_of_ble_eq_true rfl) dMO_peek_44 (fun r_3 s_2 => ?_)
    refine zm_ld_3 h dMO_peek_47 ?_
    refine zz_goto h 52 dMO_peek_48 rfl ?_
    exact zz_iret h dMO_peek_52
  · refine zz_iconst (v := 0) h dMO_peek_51 zz_li_0 ?_
    exact zz_iret h dMO_peek_52
set_option maxRecDepth 100000 in
set_option maxHeartbeats 4000000 in
theorem MO_peek_w {l : Launch} {D : va_G} {ad : Nat → Nat} {cA : Nat → ClassId} {tb : Nat} {E : zz_E} (hV : zz_ok (zm_V l D ad cA tb)) (h : zz_X (zm_V l D ad cA tb) E "FrameProcessorModel" prog_10_method_44_code 2 zt_T 1 22 (some .int)) (x1 : Int32) (st : zz_S) : zz_Z (zm_V l D ad cA tb) E 2 0 0 (zz_q (zm_V l D ad cA tb) E zz_ji) (MO_peek_f x1 st) 0 [(0, .ref (ad 0)), (1, .int x1)] [] st := by
  unfold MO_peek_f
  refine zz_aload_n h dMO_peek_0 rfl ?_
  refine zz_iload_n h dMO_peek_1 rfl ?_
  refine zz_sipush (v := 4096) h dMO_peek_2 zz_ls_4096 ?_
  refine zz_callS2i h (MO_isNumber_c hV _ _ _) MO_isNumber_k zm_MO_228 rfl rfl ⟨Nat.le_of_ble_eq_true rfl, Nat.le_of_ble_eq_true rfl⟩ (Nat.le_of_ble_eq_true rfl) dMO_peek_5 (fun r_5 s_4 => ?_)
  refine zz_if_ne h 15 dMO_peek_8 rfl ?_ ?_
  · refine zz_iconst (v := 1) h dMO_peek_11 zz_li_1 ?_
    refine zz_goto h 28 dMO_peek_12 rfl ?_
    exact zz_sub (MO_peek_28_w hV h _ _ _) rfl
  · refine zz_aload_n h dMO_peek_15 rfl ?_
    refine zz_iload_n h dMO_peek_16 rfl ?_
    refine zz_callV1i h 0 rfl rfl (MO_at_c hV _ _) MO_at_k zm_MO_71 rfl rfl ⟨Nat.le_of_ble_eq_true rfl, Nat.le_of_ble_eq_true rfl⟩ (Nat.le_of_ble_eq_true rfl) dMO_peek_17 (fun r_7 s_6 => ?_)
    refine zz_if_ge h 27 dMO_peek_20 rfl ?_ ?_
    · refine zz_iconst (v := 0) h dMO_peek_27 zz_li_0 ?_
      exact zz_sub (MO_peek_28_w hV h _ _ _) rfl
    · refine zz_iconst (v := 2) h dMO_peek_23 zz_li_2 ?_
      refine zz_goto h 28 dMO_peek_24 rfl ?_
      exact zz_sub (MO_peek_28_w hV h _ _ _) rfl
theorem MO_peek_c {l : Launch} {D : va_G} {ad : Nat → Nat} {cA : Nat → ClassId} {tb : Nat} (hV : zz_ok (zm_V l D ad cA tb)) (x1 : Int32) (st : zz_S) : zz_C (zm_V l D ad cA tb) yMO_peek (Cond.code yMO_peek prog_10_method_44_code 2 (some .int) :: zt_T) { frames := 1, cells := 0, slots := 0, locals := 22 } zz_ji [.ref (ad 0), .int x1] st (MO_peek_f x1 st) := zz_met hV (by decide +kernel) rfl (Nat.le_of_ble_eq_true rfl) rfl (fun E h => MO_peek_w hV h x1 st)
def MO_start_59 (x2 : Int32) (x3 : Int32) (x4 : Int32) (y0 : Int32) (st : zz_S) : Option (Int32 × zz_S) := (zz_nm (zz_sp st 0 y0) fun s_1 => (if (zz_sg s_1 2) ≤ 0 then (zz_bd (MO_begin_f x3 x4 x2 s_1) fun _ s_2 => (some (x3, s_2))) else (zz_bd (MO_undo_f s_1) fun _ s_3 => (some ((0 : Int32), s_3)))))
def MO_start_44 (x2 : Int32) (x3 : Int32) (y0 : Int32) (st : zz_S) : Option (Int32 × zz_S) := (if (zz_sg st 2) ≤ 0 then (MO_start_59 x2 x3 y0 (0 : Int32) st) else (MO_start_59 x2 x3 y0 (1 : Int32) st))
def MO_start_25 (x1 : Int32) (x2 : Int32) (x3 : Int32) (st : zz_S) : Option (Int32 × zz_S) := (if (zz_sg st 2) ≤ 0 then (zz_bd (MO_low_f x1 st) fun r_5 s_4 => (zz_bd (MO_begun_f r_5 s_4) fun r_7 s_6 => (MO_start_44 x2 x3 r_7 s_6))) else (MO_start_44 x2 x3 (0 : Int32) st))
def MO_start_f (x1 : Int32) (x2 : Int32) (st : zz_S) : Option (Int32 × zz_S) := (zz_nm (zz_sp st 2 (0 : Int32)) fun s_8 => (zz_nm (zz_sp s_8 1 (0 : Int32)) fun s_9 => (zz_bd (MO_leastFree_f s_9) fun r_11 s_10 => (if 0 ≤ r_11 then (MO_start_25 x1 x2 r_11 s_10) else (zz_bd (MO_wrong_f (8 : Int32) s_10) fun _ s_12 => (MO_start_25 x1 x2 r_11 s_12))))))
set_option maxRecDepth 100000 in
set_option maxHeartbeats 4000000 in
theorem MO_start_59_w {l : Launch} {D : va_G} {ad : Nat → Nat} {cA : Nat → ClassId} {tb : Nat} {E : zz_E} (hV : zz_ok (zm_V l D ad cA tb)) (h : zz_X (zm_V l D ad cA tb) E "FrameProcessorModel" prog_10_method_45_code 5 zt_T 5 119 (some .int)) (x2 : Int32) (x3 : Int32) (x4 : Int32) (y0 : Int32) (st : zz_S) : zz_Z (zm_V l D ad cA tb) E 5 0 0 (zz_q (zm_V l D ad cA tb) E zz_ji) (MO_start_59 x2 x3 x4 y0 st) 59 [(0, .ref (ad 0)), (2, .int x2), (3, .int x3), (4, .int x4)] [.int y0, .ref (ad 0)] st := by
  unfold MO_start_59
  refine zm_p_MO_thrown h zi_MO zf_MO_63 dMO_start_59 (fun s_1 => ?_)
  refine zz_aload_n h dMO_start_62 rfl ?_
  refine zm_g_MO_fault h zi_MO zf_MO_68 dMO_start_63 ?_
  refine zz_if_le h 75 dMO_start_66 rfl ?_ ?_
  · refine zz_aload_n h dMO_start_75 rfl ?_
    refine zz_iload_n h dMO_start_76 rfl ?_
    refine zz_iload h dMO_start_77 rfl ?_
    refine zz_iload_n h dMO_start_79 rfl ?_
    refine zz_callV3v h 0 rfl rfl (MO_begin_c hV _ _ _ _) MO_begin_k zm_MO_218 rfl rfl ⟨Nat.le_of_ble_eq_true rfl, Nat.le_of_ble_eq_true rfl⟩ (Nat.le_of_ble_eq_true rfl) dMO_start_80 (fun _ s_2 => ?_)
    refine zz_iload_n h dMO_start_83 rfl ?_
    exact zz_iret h dMO_start_84
  · refine zz_aload_n h dMO_start_69 rfl ?_
    refine zz_callV0v h 0 rfl rfl (MO_undo_c hV _) MO_undo_k zm_MO_212 rfl rfl ⟨Nat.le_of_ble_eq_true rfl, Nat.le_of_ble_eq_true rfl⟩ (Nat.le_of_ble_eq_true rfl) dMO_start_70 (fun _ s_3 => ?_)
    refine zz_iconst (v := 0) h dMO_start_73 zz_li_0 ?_
    exact zz_iret h dMO_start_74
set_option maxRecDepth 100000 in
set_option maxHeartbeats 4000000 in
theorem MO_start_44_w {l : Launch} {D : va_G} {ad : Nat → Nat} {cA : Nat → ClassId} {tb : Nat} {E : zz_E} (hV : zz_ok (zm_V l D ad cA tb)) (h : zz_X (zm_V l D ad cA tb) E "FrameProcessorModel" prog_10_method_45_code 5 zt_T 5 119 (some .int)) (x2 : Int32) (x3 : Int32) (y0 : Int32) (st : zz_S) : zz_Z (zm_V l D ad cA tb) E 5 0 0 (zz_q (zm_V l D ad cA tb) E zz_ji) (MO_start_44 x2 x3 y0 st) 44 [(0, .ref (ad 0)), (2, .int x2), (3, .int x3)] [.int y0] st := by
  unfold MO_start_44
  refine zz_istore h dMO_start_44 (Nat.le_of_ble_eq_true rfl) ?_
  refine zz_aload_n h dMO_start_46 rfl ?_
  refine zz_aload_n h dMO_start_47 rfl ?_
  refine zm_g_MO_fault h zi_MO zf_MO_68 dMO_start_48 ?_
  refine zz_if_le h 58 dMO_start_51 rfl ?_ ?_
  · refine zz_iconst (v := 0) h dMO_start_58 zz_li_0 ?_
    exact zz_sub (MO_start_59_w hV h _ _ _ _ _) rfl
  · refine zz_iconst (v := 1) h dMO_start_54 zz_li_1 ?_
    refine zz_goto h 59 dMO_start_55 rfl ?_
    exact zz_sub (MO_start_59_w hV h _ _ _ _ _) rfl
set_option maxRecDepth 100000 in
set_option maxHeartbeats 4000000 in
theorem MO_start_25_w {l : Launch} {D : va_G} {ad : Nat → Nat} {cA : Nat → ClassId} {tb : Nat} {E : zz_E} (hV : zz_ok (zm_V l D ad cA tb)) (h : zz_X (zm_V l D ad cA tb) E "FrameProcessorModel" prog_10_method_45_code 5 zt_T 5 119 (some .int)) (x1 : Int32) (x2 : Int32) (x3 : Int32) (st : zz_S) : zz_Z (zm_V l D ad cA tb) E 5 0 0 (zz_q (zm_V l D ad cA tb) E zz_ji) (MO_start_25 x1 x2 x3 st) 25 [(0, .ref (ad 0)), (1, .int x1), (2, .int x2), (3, .int x3)] [] st := by
  unfold MO_start_25
  refine zz_aload_n h dMO_start_25 rfl ?_
  refine zm_g_MO_fault h zi_MO zf_MO_68 dMO_start_26 ?_
  refine zz_if_le h 36 dMO_start_29 rfl ?_ ?_
  · refine zz_aload_n h dMO_start_36 rfl ?_
    refine zz_iload_n h dMO_start_37 rfl ?_
    refine zz_callS1i h (MO_low_c hV _ _) MO_low_k zm_MO_82 rfl rfl ⟨Nat.le_of_ble_eq_true rfl, Nat.le_of_ble_eq_true rfl⟩ (Nat.le_of_ble_eq_true rfl) dMO_start_38 (fun r_5 s_4 => ?_)
    refine zz_callV1i h 0 rfl rfl (MO_begun_c hV _ _) MO_begun_k zm_MO_197 rfl rfl ⟨Nat.le_of_ble_eq_true rfl, Nat.le_of_ble_eq_true rfl⟩ (Nat.le_of_ble_eq_true rfl) dMO_start_41 (fun r_7 s_6 => ?_)
    exact zz_sub (MO_start_44_w hV h _ _ _ _) rfl
  · refine zz_iconst (v := 0) h dMO_start_32 zz_li_0 ?_
    refine zz_goto h 44 dMO_start_33 rfl ?_
    exact zz_sub (MO_start_44_w hV h _ _ _ _) rfl
set_option maxRecDepth 100000 in
set_option maxHeartbeats 4000000 in
theorem MO_start_w {l : Launch} {D : va_G} {ad : Nat → Nat} {cA : Nat → ClassId} {tb : Nat} {E : zz_E} (hV : zz_ok (zm_V l D ad cA tb)) (h : zz_X (zm_V l D ad cA tb) E "FrameProcessorModel" prog_10_method_45_code 5 zt_T 5 119 (some .int)) (x1 : Int32) (x2 : Int32) (st : zz_S) : zz_Z (zm_V l D ad cA tb) E 5 0 0 (zz_q (zm_V l D ad cA tb) E zz_ji) (MO_start_f x1 x2 st) 0 [(0, .ref (ad 0)), (1, .int x1), (2, .int x2)] [] st := by
  unfold MO_start_f
  refine zz_aload_n h dMO_start_0 rfl ?_
  refine zz_iconst (v := 0) h dMO_start_1 zz_li_0 ?_
  refine zm_p_MO_fault h zi_MO zf_MO_68 dMO_start_2 (fun s_8 => ?_)
  refine zz_aload_n h dMO_start_5 rfl ?_
  refine zz_iconst (v := 0) h dMO_start_6 zz_li_0 ?_
  refine zm_p_MO_written h zi_MO zf_MO_79 dMO_start_7 (fun s_9 => ?_)
  refine zz_aload_n h dMO_start_10 rfl ?_
  refine zz_callV0i h 0 rfl rfl (MO_leastFree_c hV _) MO_leastFree_k zm_MO_194 rfl rfl ⟨Nat.le_of_ble_eq_true rfl, Nat.le_of_ble_eq_true rfl⟩ (Nat.le_of_ble_eq_true rfl) dMO_start_11 (fun r_11 s_10 => ?_)
  refine zz_istore_n h dMO_start_14 (Nat.le_of_ble_eq_true rfl) ?_
  refine zz_iload_n h dMO_start_15 rfl ?_
  refine zz_if_ge h 25 dMO_start_16 rfl ?_ ?_
  · exact zz_sub (MO_start_25_w hV h _ _ _ _) rfl
  · refine zz_aload_n h dMO_start_19 rfl ?_
    refine zz_bipush (v := 8) h dMO_start_20 zz_lb_8 ?_
    refine zz_callV1v h 0 rfl rfl (MO_wrong_c hV _ _) MO_wrong_k zm_MO_75 rfl rfl ⟨Nat.le_of_ble_eq_true rfl, Nat.le_of_ble_eq_true rfl⟩ (Nat.le_of_ble_eq_true rfl) dMO_start_22 (fun _ s_12 => ?_)
    exact zz_sub (MO_start_25_w hV h _ _ _ _) rfl
theorem MO_start_c {l : Launch} {D : va_G} {ad : Nat → Nat} {cA : Nat → ClassId} {tb : Nat} (hV : zz_ok (zm_V l D ad cA tb)) (x1 : Int32) (x2 : Int32) (st : zz_S) : zz_C (zm_V l D ad cA tb) yMO_start (Cond.code yMO_start prog_10_method_45_code 5 (some .int) :: zt_T) { frames := 5, cells := 0, slots := 0, locals := 119 } zz_ji [.ref (ad 0), .int x1, .int x2] st (MO_start_f x1 x2 st) := zz_met hV (by decide +kernel) rfl (Nat.le_of_ble_eq_true rfl) rfl (fun E h => MO_start_w hV h x1 x2 st)
def MO_resume_29 (x1 : Int32) (y0 : Int32) (st : zz_S) : Option (Unit × zz_S) := (zz_nm (zz_sp st 0 y0) fun s_1 => (if (zz_sg s_1 0) = 0 then (zz_bd (MO_ready_f x1 s_1) fun _ s_2 => (some ((), s_2))) else (some ((), s_1))))
def MO_resume_f (x1 : Int32) (st : zz_S) : Option (Unit × zz_S) := (zz_bd (MO_isNumber_f x1 (6 : Int32) st) fun r_4 s_3 => (if r_4 = 0 then (MO_resume_29 x1 (1 : Int32) s_3) else (zz_gd (zz_in x1 6) (if (zz_ag s_3 5 x1.toNatClampNeg) = (4 : Int32) then (MO_resume_29 x1 (0 : Int32) s_3) else (MO_resume_29 x1 (2 : Int32) s_3)))))
set_option maxRecDepth 100000 in
set_option maxHeartbeats 4000000 in
theorem MO_resume_29_w {l : Launch} {D : va_G} {ad : Nat → Nat} {cA : Nat → ClassId} {tb : Nat} {E : zz_E} (hV : zz_ok (zm_V l D ad cA tb)) (h : zz_X (zm_V l D ad cA tb) E "FrameProcessorModel" prog_10_method_46_code 2 zt_T 2 43 none) (x1 : Int32) (y0 : Int32) (st : zz_S) : zz_Z (zm_V l D ad cA tb) E 2 0 0 (zz_q (zm_V l D ad cA tb) E zz_jv) (MO_resume_29 x1 y0 st) 29 [(0, .ref (ad 0)), (1, .int x1)] [.int y0, .ref (ad 0)] st := by
  unfold MO_resume_29
  refine zm_p_MO_thrown h zi_MO zf_MO_63 dMO_resume_29 (fun s_1 => ?_)
  refine zz_aload_n h dMO_resume_32 rfl ?_
  refine zm_g_MO_thrown h zi_MO zf_MO_63 dMO_resume_33 ?_
  refine zz_if_ne h 44 dMO_resume_36 rfl ?_ ?_
  · refine zz_aload_n h dMO_resume_39 rfl ?_
    refine zz_iload_n h dMO_resume_40 rfl ?_
    refine zz_callV1v h 0 rfl rfl (MO_ready_c hV _ _) MO_ready_k zm_MO_135 rfl rfl ⟨Nat.le_of_ble_eq_true rfl, Nat.le_of_ble_eq_true rfl⟩ (Nat.le_of_ble_eq_true rfl) dMO_resume_41 (fun _ s_2 => ?_)
    exact zz_vret h dMO_resume_44
  · exact zz_vret h dMO_resume_44
set_option maxRecDepth 100000 in
set_option maxHeartbeats 4000000 in
theorem MO_resume_w {l : Launch} {D : va_G} {ad : Nat → Nat} {cA : Nat → ClassId} {tb : Nat} {E : zz_E} (hV : zz_ok (zm_V l D ad cA tb)) (h : zz_X (zm_V l D ad cA tb) E "FrameProcessorModel" prog_10_method_46_code 2 zt_T 2 43 none) (x1 : Int32) (st : zz_S) : zz_Z (zm_V l D ad cA tb) E 2 0 0 (zz_q (zm_V l D ad cA tb) E zz_jv) (MO_resume_f x1 st) 0 [(0, .ref (ad 0)), (1, .int x1)] [] st := by
  unfold MO_resume_f
  refine zz_aload_n h dMO_resume_0 rfl ?_
  refine zz_iload_n h dMO_resume_1 rfl ?_
  refine zz_bipush (v := 6) h dMO_resume_2 zz_lb_6 ?_
  refine zz_callS2i h (MO_isNumber_c hV _ _ _) MO_isNumber_k zm_MO_228 rfl rfl ⟨Nat.le_of_ble_eq_true rfl, Nat.le_of_ble_eq_true rfl⟩ (Nat.le_of_ble_eq_true rfl) dMO_resume_4 (fun r_4 s_3 => ?_)
  refine zz_if_ne h 14 dMO_resume_7 rfl ?_ ?_
  · refine zz_iconst (v := 1) h dMO_resume_10 zz_li_1 ?_
    refine zz_goto h 29 dMO_resume_11 rfl ?_
    exact zz_sub (MO_resume_29_w hV h _ _ _) rfl
  · refine zz_aload_n h dMO_resume_14 rfl ?_
    refine zm_g_MO_state h zi_MO zf_MO_23 dMO_resume_15 ?_
    refine zz_iload_n h dMO_resume_18 rfl ?_
    refine zm_ld_5 h dMO_resume_19 ?_
    refine zz_iconst (v := 4) h dMO_resume_20 zz_li_4 ?_
    refine zz_icmp_eq h 28 dMO_resume_21 rfl ?_ ?_
    · refine zz_iconst (v := 0) h dMO_resume_28 zz_li_0 ?_
      exact zz_sub (MO_resume_29_w hV h _ _ _) rfl
    · refine zz_iconst (v := 2) h dMO_resume_24 zz_li_2 ?_
      refine zz_goto h 29 dMO_resume_25 rfl ?_
      exact zz_sub (MO_resume_29_w hV h _ _ _) rfl
theorem MO_resume_c {l : Launch} {D : va_G} {ad : Nat → Nat} {cA : Nat → ClassId} {tb : Nat} (hV : zz_ok (zm_V l D ad cA tb)) (x1 : Int32) (st : zz_S) : zz_C (zm_V l D ad cA tb) yMO_resume (Cond.code yMO_resume prog_10_method_46_code 2 none :: zt_T) { frames := 2, cells := 0, slots := 0, locals := 43 } zz_jv [.ref (ad 0), .int x1] st (MO_resume_f x1 st) := zz_met hV (by decide +kernel) rfl (Nat.le_of_ble_eq_true rfl) rfl (fun E h => MO_resume_w hV h x1 st)
def MO_kill_28 (x1 : Int32) (y0 : Int32) (st : zz_S) : Option (Unit × zz_S) := (zz_nm (zz_sp st 0 y0) fun s_1 => (if (zz_sg s_1 0) = 0 then (zz_gd (zz_in x1 6) (zz_nm (zz_ap s_1 5 x1.toNatClampNeg (0 : Int32)) fun s_2 => (some ((), s_2)))) else (some ((), s_1))))
def MO_kill_f (x1 : Int32) (st : zz_S) : Option (Unit × zz_S) := (zz_bd (MO_isNumber_f x1 (6 : Int32) st) fun r_4 s_3 => (if r_4 = 0 then (MO_kill_28 x1 (1 : Int32) s_3) else (zz_gd (zz_in x1 6) (if (zz_ag s_3 5 x1.toNatClampNeg) = 0 then (MO_kill_28 x1 (2 : Int32) s_3) else (MO_kill_28 x1 (0 : Int32) s_3)))))
set_option maxRecDepth 100000 in
set_option maxHeartbeats 4000000 in
theorem MO_kill_28_w {l : Launch} {D : va_G} {ad : Nat → Nat} {cA : Nat → ClassId} {tb : Nat} {E : zz_E} (hV : zz_ok (zm_V l D ad cA tb)) (h : zz_X (zm_V l D ad cA tb) E "FrameProcessorModel" prog_10_method_47_code 2 zt_T 1 21 none) (x1 : Int32) (y0 : Int32) (st : zz_S) : zz_Z (zm_V l D ad cA tb) E 2 0 0 (zz_q (zm_V l D ad cA tb) E zz_jv) (MO_kill_28 x1 y0 st) 28 [(0, .ref (ad 0)), (1, .int x1)] [.int y0, .ref (ad 0)] st := by
  unfold MO_kill_28
  refine zm_p_MO_thrown h zi_MO zf_MO_63 dMO_kill_28 (fun s_1 => ?_)
  refine zz_aload_n h dMO_kill_31 rfl ?_
  refine zm_g_MO_thrown h zi_MO zf_MO_63 dMO_kill_32 ?_
  refine zz_if_ne h 45 dMO_kill_35 rfl ?_ ?_
  · refine zz_aload_n h dMO_kill_38 rfl ?_
    refine zm_g_MO_state h zi_MO zf_MO_23 dMO_kill_39 ?_
    refine zz_iload_n h dMO_kill_42 rfl ?_
    refine zz_iconst (v := 0) h dMO_kill_43 zz_li_0 ?_
    refine zm_st_5 h dMO_kill_44 (fun s_2 => ?_)
    exact zz_vret h dMO_kill_45
  · exact zz_vret h dMO_kill_45
set_option maxRecDepth 100000 in
set_option maxHeartbeats 4000000 in
theorem MO_kill_w {l : Launch} {D : va_G} {ad : Nat → Nat} {cA : Nat → ClassId} {tb : Nat} {E : zz_E} (hV : zz_ok (zm_V l D ad cA tb)) (h : zz_X (zm_V l D ad cA tb) E "FrameProcessorModel" prog_10_method_47_code 2 zt_T 1 21 none) (x1 : Int32) (st : zz_S) : zz_Z (zm_V l D ad cA tb) E 2 0 0 (zz_q (zm_V l D ad cA tb) E zz_jv) (MO_kill_f x1 st) 0 [(0, .ref (ad 0)), (1, .int x1)] [] st := by
  unfold MO_kill_f
  refine zz_aload_n h dMO_kill_0 rfl ?_
  refine zz_iload_n h dMO_kill_1 rfl ?_
  refine zz_bipush (v := 6) h dMO_kill_2 zz_lb_6 ?_
  refine zz_callS2i h (MO_isNumber_c hV _ _ _) MO_isNumber_k zm_MO_228 rfl rfl ⟨Nat.le_of_ble_eq_true rfl, Nat.le_of_ble_eq_true rfl⟩ (Nat.le_of_ble_eq_true rfl) dMO_kill_4 (fun r_4 s_3 => ?_)
  refine zz_if_ne h 14 dMO_kill_7 rfl ?_ ?_
  · refine zz_iconst (v := 1) h dMO_kill_10 zz_li_1 ?_
    refine zz_goto h 28 dMO_kill_11 rfl ?_
    exact zz_sub (MO_kill_28_w hV h _ _ _) rfl
  · refine zz_aload_n h dMO_kill_14 rfl ?_
    refine zm_g_MO_state h zi_MO zf_MO_23 dMO_kill_15 ?_
    refine zz_iload_n h dMO_kill_18 rfl ?_
    refine zm_ld_5 h dMO_kill_19 ?_
    refine zz_if_ne h 27 dMO_kill_20 rfl ?_ ?_
    · refine zz_iconst (v := 2) h dMO_kill_23 zz_li_2 ?_
      refine zz_goto h 28 dMO_kill_24 rfl ?_
      exact zz_sub (MO_kill_28_w hV h _ _ _) rfl
    · refine zz_iconst (v := 0) h dMO_kill_27 zz_li_0 ?_
      exact zz_sub (MO_kill_28_w hV h _ _ _) rfl
theorem MO_kill_c {l : Launch} {D : va_G} {ad : Nat → Nat} {cA : Nat → ClassId} {tb : Nat} (hV : zz_ok (zm_V l D ad cA tb)) (x1 : Int32) (st : zz_S) : zz_C (zm_V l D ad cA tb) yMO_kill (Cond.code yMO_kill prog_10_method_47_code 2 none :: zt_T) { frames := 1, cells := 0, slots := 0, locals := 21 } zz_jv [.ref (ad 0), .int x1] st (MO_kill_f x1 st) := zz_met hV (by decide +kernel) rfl (Nat.le_of_ble_eq_true rfl) rfl (fun E h => MO_kill_w hV h x1 st)
