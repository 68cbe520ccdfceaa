def MO_stack_f (x1 : Int32) (x2 : Int32) (st : zz_S) : Option (Int32 × zz_S) := (zz_nm (zz_sp st 0 (0 : Int32)) fun s_1 => (zz_bd (MO_isNumber_f x1 (6 : Int32) s_1) fun r_3 s_2 => (if r_3 = 0 then (some ((-1 : Int32), s_2)) else (zz_gd (zz_in x1 6) (if (zz_ag s_2 5 x1.toNatClampNeg) = 0 then (some ((-1 : Int32), s_2)) else (if x2 < 0 then (some ((-1 : Int32), s_2)) else (zz_gd (zz_in x1 6) (if x2 < (zz_ag s_2 8 x1.toNatClampNeg) then (zz_gd (zz_in x1 6) (zz_nm (((((8 : Int32) * x1) + (zz_ag s_2 8 x1.toNatClampNeg)) - (1 : Int32)) - x2) fun v_4 => (zz_gd (zz_in v_4 48) (some ((zz_ag s_2 9 v_4.toNatClampNeg), s_2))))) else (some ((-1 : Int32), s_2))))))))))
set_option maxRecDepth 100000 in
set_option maxHeartbeats 4000000 in
theorem MO_stack_w {l : Launch} {D : va_G} {ad : Nat → Nat} {cA : Nat → ClassId} {tb : Nat} {E : zz_E} (hV : zz_ok (zm_V l D ad cA tb)) (h : zz_X (zm_V l D ad cA tb) E "FrameProcessorModel" prog_10_method_52_code 3 zt_T 1 21 (some .int)) (x1 : Int32) (x2 : Int32) (st : zz_S) : zz_Z (zm_V l D ad cA tb) E 3 0 0 (zz_q (zm_V l D ad cA tb) E zz_ji) (MO_stack_f x1 x2 st) 0 [(0, .ref (ad 0)), (1, .int x1), (2, .int x2)] [] st := by
  unfold MO_stack_f
  refine zz_aload_n h dMO_stack_0 rfl ?_
  refine zz_iconst (v := 0) h dMO_stack_1 zz_li_0 ?_
  refine zm_p_MO_thrown h zi_MO zf_MO_63 dMO_stack_2 (fun s_1 => ?_)
  refine zz_iload_n h dMO_stack_5 rfl ?_
  refine zz_bipush (v := 6) h dMO_stack_6 zz_lb_6 ?_
  refine zz_callS2i h (MO_isNumber_c hV _ _ _) MO_isNumber_k zm_MO_228 rfl rfl ⟨Nat.le_of_ble_eq_true rfl, Nat.le_of_ble_eq_true rfl⟩ (Nat.le_of_ble_eq_true rfl) dMO_stack_8 (fun r_3 s_2 => ?_)
  refine zz_if_eq h 37 dMO_stack_11 rfl ?_ ?_
  · refine zz_iconst (v := -1) h dMO_stack_37 zz_li_m1 ?_
    refine zz_goto h 61 dMO_stack_38 rfl ?_
    exact zz_iret h dMO_stack_61
  · refine zz_aload_n h dMO_stack_14 rfl ?_
    refine zm_g_MO_state h zi_MO zf_MO_23 dMO_stack_15 ?_
    refine zz_iload_n h dMO_stack_18 rfl ?_
    refine zm_ld_5 h dMO_stack_19 ?_
    refine zz_if_eq h 37 dMO_stack_20 rfl ?_ ?_
    · refine zz_iconst (v := -1) h dMO_stack_37 zz_li_m1 ?_
      refine zz_goto h 61 dMO_stack_38 rfl ?_
      exact zz_iret h dMO_stack_61
    · refine zz_iload_n h dMO_stack_23 rfl ?_
      refine zz_if_lt h 37 dMO_stack_24 rfl ?_ ?_
      · refine zz_iconst (v := -1) h dMO_stack_37 zz_li_m1 ?_
        refine zz_goto h 61 dMO_stack_38 rfl ?_
        exact zz_iret h dMO_stack_61
      · refine zz_iload_n h dMO_stack_27 rfl ?_
        refine zz_aload_n h dMO_stack_28 rfl ?_
        refine zm_g_MO_size h zi_MO zf_MO_32 dMO_stack_29 ?_
        refine zz_iload_n h dMO_stack_32 rfl ?_
        refine zm_ld_8 h dMO_stack_33 ?_
        refine zz_icmp_lt h 41 dMO_stack_34 rfl ?_ ?_
        · refine zz_aload_n h dMO_stack_41 rfl ?_
          refine zm_g_MO_stack h zi_MO zf_MO_35 dMO_stack_42 ?_
          refine zz_bipush (v := 8) h dMO_stack_45 zz_lb_8 ?_
          refine zz_iload_n h dMO_stack_47 rfl ?_
          refine zz_imul h dMO_stack_48 ?_
          refine zz_aload_n h dMO_stack_49 rfl ?_
          refine zm_g_MO_size h zi_MO zf_MO_32 dMO_stack_50 ?_
          refine zz_iload_n h dMO_stack_53 rfl ?_
          refine zm_ld_8 h dMO_stack_54 ?_
          refine zz_iadd h dMO_stack_55 ?_
          refine zz_iconst (v := 1) h dMO_stack_56 zz_li_1 ?_
          refine zz_isub h dMO_stack_57 ?_
          refine zz_iload_n h dMO_stack_58 rfl ?_
          refine zz_isub h dMO_stack_59 ?_
          refine zz_topi (fun v_4 => ?_)
          refine zm_ld_9 h dMO_stack_60 ?_
          exact zz_iret h dMO_stack_61
        · refine zz_iconst (v := -1) h dMO_stack_37 zz_li_m1 ?_
          refine zz_goto h 61 dMO_stack_38 rfl ?_
          exact zz_iret h dMO_stack_61
theorem MO_stack_c {l : Launch} {D : va_G} {ad : Nat → Nat} {cA : Nat → ClassId} {tb : Nat} (hV : zz_ok (zm_V l D ad cA tb)) (x1 : Int32) (x2 : Int32) (st : zz_S) : zz_C (zm_V l D ad cA tb) yMO_stack (Cond.code yMO_stack prog_10_method_52_code 3 (some .int) :: zt_T) { frames := 1, cells := 0, slots := 0, locals := 21 } zz_ji [.ref (ad 0), .int x1, .int x2] st (MO_stack_f x1 x2 st) := zz_met hV (by decide +kernel) rfl (Nat.le_of_ble_eq_true rfl) rfl (fun E h => MO_stack_w hV h x1 x2 st)
def MO_page_f (x1 : Int32) (x2 : Int32) (st : zz_S) : Option (Int32 × zz_S) := (zz_nm (zz_sp st 0 (0 : Int32)) fun s_1 => (zz_bd (MO_isNumber_f x1 (16 : Int32) s_1) fun r_3 s_2 => (if r_3 = 0 then (some ((-1 : Int32), s_2)) else (if x2 = 0 then (zz_gd (zz_in x1 16) (some ((zz_ag s_2 1 x1.toNatClampNeg), s_2))) else (if x2 = (1 : Int32) then (zz_gd (zz_in x1 16) (if (zz_ag s_2 4 x1.toNatClampNeg) = 0 then (some ((0 : Int32), s_2)) else (some ((1 : Int32), s_2)))) else (some ((-1 : Int32), s_2)))))))
set_option maxRecDepth 100000 in
set_option maxHeartbeats 4000000 in
theorem MO_page_w {l : Launch} {D : va_G} {ad : Nat → Nat} {cA : Nat → ClassId} {tb : Nat} {E : zz_E} (hV : zz_ok (zm_V l D ad cA tb)) (h : zz_X (zm_V l D ad cA tb) E "FrameProcessorModel" prog_10_method_53_code 3 zt_T 1 21 (some .int)) (x1 : Int32) (x2 : Int32) (st : zz_S) : zz_Z (zm_V l D ad cA tb) E 3 0 0 (zz_q (zm_V l D ad cA tb) E zz_ji) (MO_page_f x1 x2 st) 0 [(0, .ref (ad 0)), (1, .int x1), (2, .int x2)] [] st := by
  unfold MO_page_f
  refine zz_aload_n h dMO_page_0 rfl ?_
  refine zz_iconst (v := 0) h dMO_page_1 zz_li_0 ?_
  refine zm_p_MO_thrown h zi_MO zf_MO_63 dMO_page_2 (fun s_1 => ?_)
  refine zz_iload_n h dMO_page_5 rfl ?_
  refine zz_bipush (v := 16) h dMO_page_6 zz_lb_16 ?_
  refine zz_callS2i h (MO_isNumber_c hV _ _ _) MO_isNumber_k zm_MO_228 rfl rfl ⟨Nat.le_of_ble_eq_true rfl, Nat.le_of_ble_eq_true rfl⟩ (Nat.le_of_ble_eq_true rfl) dMO_page_8 (fun r_3 s_2 => ?_)
  refine zz_if_ne h 18 dMO_page_11 rfl ?_ ?_
  · refine zz_iconst (v := -1) h dMO_page_14 zz_li_m1 ?_
    refine zz_goto h 54 dMO_page_15 rfl ?_
    exact zz_iret h dMO_page_54
  · refine zz_iload_n h dMO_page_18 rfl ?_
    refine zz_if_ne h 31 dMO_page_19 rfl ?_ ?_
    · refine zz_aload_n h dMO_page_22 rfl ?_
      refine zm_g_MO_map h zi_MO zf_MO_7 dMO_page_23 ?_
      refine zz_iload_n h dMO_page_26 rfl ?_
      refine zm_ld_1 h dMO_page_27 ?_
      refine zz_goto h 54 dMO_page_28 rfl ?_
      exact zz_iret h dMO_page_54
    · refine zz_iload_n h dMO_page_31 rfl ?_
      refine zz_iconst (v := 1) h dMO_page_32 zz_li_1 ?_
      refine zz_icmp_ne h 53 dMO_page_33 rfl ?_ ?_
      · refine zz_aload_n h dMO_page_36 rfl ?_
        refine zm_g_MO_guarded h zi_MO zf_MO_19 dMO_page_37 ?_
        refine zz_iload_n h dMO_page_40 rfl ?_
        refine zm_ld_4 h dMO_page_41 ?_
        refine zz_if_eq h 49 dMO_page_42 rfl ?_ ?_
        · refine zz_iconst (v := 0) h dMO_page_49 zz_li_0 ?_
          refine zz_goto h 54 dMO_page_50 rfl ?_
          exact zz_iret h dMO_page_54
        · refine zz_iconst (v := 1) h dMO_page_45 zz_li_1 ?_
          refine zz_goto h 54 dMO_page_46 rfl ?_
          exact zz_iret h dMO_page_54
      · refine zz_iconst (v := -1) h dMO_page_53 zz_li_m1 ?_
        exact zz_iret h dMO_page_54
theorem MO_page_c {l : Launch} {D : va_G} {ad : Nat → Nat} {cA : Nat → ClassId} {tb : Nat} (hV : zz_ok (zm_V l D ad cA tb)) (x1 : Int32) (x2 : Int32) (st : zz_S) : zz_C (zm_V l D ad cA tb) yMO_page (Cond.code yMO_page prog_10_method_53_code 3 (some .int) :: zt_T) { frames := 1, cells := 0, slots := 0, locals := 21 } zz_ji [.ref (ad 0), .int x1, .int x2] st (MO_page_f x1 x2 st) := zz_met hV (by decide +kernel) rfl (Nat.le_of_ble_eq_true rfl) rfl (fun E h => MO_page_w hV h x1 x2 st)
def MO_free_79 (k43 : Int32 → Int32 → zz_S → Option (Int32 × zz_S)) (x2 : Int32) (y0 : Int32) (st : zz_S) : Option (Int32 × zz_S) := (k43 x2 y0 st)
def MO_free_43b (k43 : Int32 → Int32 → zz_S → Option (Int32 × zz_S)) (x2 : Int32) (x4 : Int32) (st : zz_S) : Option (Int32 × zz_S) := (if x4 = 0 then (some (x2, st)) else (if (600 : Int32) ≤ x2 then (some (x2, st)) else (zz_bd (MO_at_f x4 st) fun r_2 s_1 => (if 0 ≤ r_2 then (zz_gd (zz_in r_2 3072) (MO_free_79 k43 (x2 + (1 : Int32)) (zz_ag s_1 3 r_2.toNatClampNeg) s_1)) else (MO_free_79 k43 (x2 + (1 : Int32)) (0 : Int32) s_1)))))
def MO_free_43 : Nat → Int32 → Int32 → zz_S → Option (Int32 × zz_S)
  | 0 => fun _ _ _ => none
  | n + 1 => MO_free_43b (MO_free_43 n)
def MO_free_41 (x2 : Int32) (y0 : Int32) (st : zz_S) : Option (Int32 × zz_S) := (MO_free_43 601 x2 y0 st)
def MO_free_f (x1 : Int32) (st : zz_S) : Option (Int32 × zz_S) := (zz_nm (zz_sp st 0 (0 : Int32)) fun s_3 => (zz_bd (MO_isNumber_f x1 (8 : Int32) s_3) fun r_5 s_4 => (if r_5 = 0 then (some ((-1 : Int32), s_4)) else (zz_bd (MO_at_f ((16 : Int32) + x1) s_4) fun r_7 s_6 => (if 0 ≤ r_7 then (zz_gd (zz_in r_7 3072) (MO_free_41 (0 : Int32) (zz_ag s_6 3 r_7.toNatClampNeg) s_6)) else (MO_free_41 (0 : Int32) (0 : Int32) s_6))))))
set_option maxRecDepth 100000 in
set_option maxHeartbeats 4000000 in
theorem MO_free_79_w {l : Launch} {D : va_G} {ad : Nat → Nat} {cA : Nat → ClassId} {tb : Nat} {E : zz_E} (hV : zz_ok (zm_V l D ad cA tb)) (h : zz_X (zm_V l D ad cA tb) E "FrameProcessorModel" prog_10_method_54_code 5 zt_T 1 22 (some .int)) {k43 : Int32 → Int32 → zz_S → Option (Int32 × zz_S)} (hk43 : ∀ (x2 : Int32) (x4 : Int32) (st : zz_S), zz_Z (zm_V l D ad cA tb) E 5 0 0 (zz_q (zm_V l D ad cA tb) E zz_ji) (k43 x2 x4 st) 43 [(0, .ref (ad 0)), (2, .int x2), (4, .int x4)] [] st) (x2 : Int32) (y0 : Int32) (st : zz_S) : zz_Z (zm_V l D ad cA tb) E 5 0 0 (zz_q (zm_V l D ad cA tb) E zz_ji) (MO_free_79 k43 x2 y0 st) 79 [(0, .ref (ad 0)), (2, .int x2)] [.int y0] st := by
  unfold MO_free_79
  refine zz_istore h dMO_free_79 (Nat.le_of_ble_eq_true rfl) ?_
  refine zz_goto h 43 dMO_free_81 rfl ?_
  exact zz_sub (hk43 _ _ _) rfl
set_option maxRecDepth 100000 in
set_option maxHeartbeats 4000000 in
theorem MO_free_43b_w {l : Launch} {D : va_G} {ad : Nat → Nat} {cA : Nat → ClassId} {tb : Nat} {E : zz_E} (hV : zz_ok (zm_V l D ad cA tb)) (h : zz_X (zm_V l D ad cA tb) E "FrameProcessorModel" prog_10_method_54_code 5 zt_T 1 22 (some .int)) {k43 : Int32 → Int32 → zz_S → Option (Int32 × zz_S)} (hk43 : ∀ (x2 : Int32) (x4 : Int32) (st : zz_S), zz_Z (zm_V l D ad cA tb) E 5 0 0 (zz_q (zm_V l D ad cA tb) E zz_ji) (k43 x2 x4 st) 43 [(0, .ref (ad 0)), (2, .int x2), (4, .int x4)] [] st) (x2 : Int32) (x4 : Int32) (st : zz_S) : zz_Z (zm_V l D ad cA tb) E 5 0 0 (zz_q (zm_V l D ad cA tb) E zz_ji) (MO_free_43b k43 x2 x4 st) 43 [(0, .ref (ad 0)), (2, .int x2), (4, .int x4)] [] st := by
  unfold MO_free_43b
  refine zz_iload h dMO_free_43 rfl ?_
  refine zz_if_eq h 84 dMO_free_45 rfl ?_ ?_
  · refine zz_iload_n h dMO_free_84 rfl ?_
    exact zz_iret h dMO_free_85
  · refine zz_iload_n h dMO_free_48 rfl ?_
    refine zz_sipush (v := 600) h dMO_free_49 zz_ls_600 ?_
    refine zz_icmp_ge h 84 dMO_free_52 rfl ?_ ?_
    · refine zz_iload_n h dMO_free_84 rfl ?_
      exact zz_iret h dMO_free_85
    · refine zz_iinc h (1 : Int32) dMO_free_55 zz_li_1 rfl (Nat.le_of_ble_eq_true rfl) ?_
      refine zz_aload_n h dMO_free_58 rfl ?_
      refine zz_iload h dMO_free_59 rfl ?_
      refine zz_callV1i h 0 rfl rfl (MO_at_c hV _ _) MO_at_k zm_MO_71 rfl rfl ⟨Nat.le_of_ble_eq_true rfl, Nat.le_of_ble_eq_true rfl⟩ (Nat.le_of_ble_eq_true rfl) dMO_free_61 (fun r_2 s_1 => ?_)
      refine zz_istore_n h dMO_free_64 (Nat.le_of_ble_eq_true rfl) ?_
      refine zz_iload_n h dMO_free_65 rfl ?_
      refine zz_if_ge h 73 dMO_free_66 rfl ?_ ?_
      · refine zz_aload_n h dMO_free_73 rfl ?_
        refine zm_g_MO_words h zi_MO zf_MO_16 dMO_free_74 ?_
        refine zz_iload_n h dMO_free_77 rfl ?_
        refine zm_ld_3 h dMO_free_78 ?_
        exact zz_sub (MO_free_79_w hV h hk43 _ _ _) rfl
      · refine zz_iconst (v := 0) h dMO_free_69 zz_li_0 ?_
        refine zz_goto h 79 dMO_free_70 rfl ?_
        exact zz_sub (MO_free_79_w hV h hk43 _ _ _) rfl
theorem MO_free_43_w {l : Launch} {D : va_G} {ad : Nat → Nat} {cA : Nat → ClassId} {tb : Nat} {E : zz_E} (hV : zz_ok (zm_V l D ad cA tb)) (h : zz_X (zm_V l D ad cA tb) E "FrameProcessorModel" prog_10_method_54_code 5 zt_T 1 22 (some .int)) : ∀ (n : Nat) (x2 : Int32) (x4 : Int32) (st : zz_S), zz_Z (zm_V l D ad cA tb) E 5 0 0 (zz_q (zm_V l D ad cA tb) E zz_ji) (MO_free_43 n x2 x4 st) 43 [(0, .ref (ad 0)), (2, .int x2), (4, .int x4)] [] st
  | 0, _, _, _ => zz_none
  | n + 1, x2, x4, st => MO_free_43b_w hV h (MO_free_43_w hV h n) x2 x4 st
set_option maxRecDepth 100000 in
set_option maxHeartbeats 4000000 in
theorem MO_free_41_w {l : Launch} {D : va_G} {ad : Nat → Nat} {cA : Nat → ClassId} {tb : Nat} {E : zz_E} (hV : zz_ok (zm_V l D ad cA tb)) (h : zz_X (zm_V l D ad cA tb) E "FrameProcessorModel" prog_10_method_54_code 5 zt_T 1 22 (some .int)) (x2 : Int32) (y0 : Int32) (st : zz_S) : zz_Z (zm_V l D ad cA tb) E 5 0 0 (zz_q (zm_V l D ad cA tb) E zz_ji) (MO_free_41 x2 y0 st) 41 [(0, .ref (ad 0)), (2, .int x2)] [.int y0] st := by
  unfold MO_free_41
  refine zz_istore h dMO_free_41 (Nat.le_of_ble_eq_true rfl) ?_
  exact zz_sub (MO_free_43_w hV h _ _ _ _) rfl
set_option maxRecDepth 100000 in
set_option maxHeartbeats 4000000 in
theorem MO_free_w {l : Launch} {D : va_G} {ad : Nat → Nat} {cA : Nat → ClassId} {tb : Nat} {E : zz_E} (hV : zz_ok (zm_V l D ad cA tb)) (h : zz_X (zm_V l D ad cA tb) E "FrameProcessorModel" prog_10_method_54_code 5 zt_T 1 22 (some .int)) (x1 : Int32) (st : zz_S) : zz_Z (zm_V l D ad cA tb) E 5 0 0 (zz_q (zm_V l D ad cA tb) E zz_ji) (MO_free_f x1 st) 0 [(0, .ref (ad 0)), (1, .int x1)] [] st := by
  unfold MO_free_f
  refine zz_aload_n h dMO_free_0 rfl ?_
  refine zz_iconst (v := 0) h dMO_free_1 zz_li_0 ?_
  refine zm_p_MO_thrown h zi_MO zf_MO_63 dMO_free_2 (fun s_3 => ?_)
  refine zz_iload_n h dMO_free_5 rfl ?_
  refine zz_bipush (v := 8) h dMO_free_6 zz_lb_8 ?_
  refine zz_callS2i h (MO_isNumber_c hV _ _ _) MO_isNumber_k zm_MO_228 rfl rfl ⟨Nat.le_of_ble_eq_true rfl, Nat.le_of_ble_eq_true rfl⟩ (Nat.le_of_ble_eq_true rfl) dMO_free_8 (fun r_5 s_4 => ?_)
  refine zz_if_ne h 16 dMO_free_11 rfl ?_ ?_
  · refine zz_iconst (v := -1) h dMO_free_14 zz_li_m1 ?_
    exact zz_iret h dMO_free_15
  · refine zz_iconst (v := 0) h dMO_free_16 zz_li_0 ?_
    refine zz_istore_n h dMO_free_17 (Nat.le_of_ble_eq_true rfl) ?_
    refine zz_aload_n h dMO_free_18 rfl ?_
    refine zz_bipush (v := 16) h dMO_free_19 zz_lb_16 ?_
    refine zz_iload_n h dMO_free_21 rfl ?_
    refine zz_iadd h dMO_free_22 ?_
    refine zz_callV1i h 0 rfl rfl (MO_at_c hV _ _) MO_at_k zm_MO_71 rfl rfl ⟨Nat.le_of_ble_eq_true rfl, Nat.le_of_ble_eq_true rfl⟩ (Nat.le_of_ble_eq_true rfl) dMO_free_23 (fun r_7 s_6 => ?_)
    refine zz_istore_n h dMO_free_26 (Nat.le_of_ble_eq_true rfl) ?_
    refine zz_iload_n h dMO_free_27 rfl ?_
    refine zz_if_ge h 35 dMO_free_28 rfl ?_ ?_
    · refine zz_aload_n h dMO_free_35 rfl ?_
      refine zm_g_MO_words h zi_MO zf_MO_16 dMO_free_36 ?_
      refine zz_iload_n h dMO_free_39 rfl ?_
      refine zm_ld_3 h dMO_free_40 ?_
      exact zz_sub (MO_free_41_w hV h _ _ _) rfl
    · refine zz_iconst (v := 0) h dMO_free_31 zz_li_0 ?_
      refine zz_goto h 41 dMO_free_32 rfl ?_
      exact zz_sub (MO_free_41_w hV h _ _ _) rfl
theorem MO_free_c {l : Launch} {D : va_G} {ad : Nat → Nat} {cA : Nat → ClassId} {tb : Nat} (hV : zz_ok (zm_V l D ad cA tb)) (x1 : Int32) (st : zz_S) : zz_C (zm_V l D ad cA tb) yMO_free (Cond.code yMO_free prog_10_method_54_code 5 (some .int) :: zt_T) { frames := 1, cells := 0, slots := 0, locals := 22 } zz_ji [.ref (ad 0), .int x1] st (MO_free_f x1 st) := zz_met hV (by decide +kernel) rfl (Nat.le_of_ble_eq_true rfl) rfl (fun E h => MO_free_w hV h x1 st)
