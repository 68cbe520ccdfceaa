def ME_isGuarded_f (x1 : Int32) (st : zz_S) : Option (Int32 × zz_S) := (zz_gd (zz_in x1 16) (zz_gd (zz_bo (zz_ag st 2 x1.toNatClampNeg)) (some ((zz_ag st 2 x1.toNatClampNeg), st))))
set_option maxRecDepth 100000 in
set_option maxHeartbeats 4000000 in
theorem ME_isGuarded_w {l : Launch} {D : va_G} {ad : Nat → Nat} {cA : Nat → ClassId} {tb : Nat} {E : zz_E} (hV : zz_ok (zc_V l D ad cA tb)) (h : zz_X (zc_V l D ad cA tb) E "FrameProcessor$Memory" prog_4_method_9_code 2 zt_T 0 0 (some .boolean)) (x1 : Int32) (st : zz_S) : zz_Z (zc_V l D ad cA tb) E 2 0 0 (zz_q (zc_V l D ad cA tb) E zz_ji) (ME_isGuarded_f x1 st) 0 [(0, .ref (ad 1)), (1, .int x1)] [] st := by
  unfold ME_isGuarded_f
  refine zz_aload_n h dME_isGuarded_0 rfl ?_
  refine zc_g_ME_guarded h zi_ME zf_ME_18 dME_isGuarded_1 ?_
  refine zz_iload_n h dME_isGuarded_4 rfl ?_
  refine zc_ld_9 h dME_isGuarded_5 ?_
  exact zz_zretG h dME_isGuarded_6
theorem ME_isGuarded_c {l : Launch} {D : va_G} {ad : Nat → Nat} {cA : Nat → ClassId} {tb : Nat} (hV : zz_ok (zc_V l D ad cA tb)) (x1 : Int32) (st : zz_S) : zz_C (zc_V l D ad cA tb) yME_isGuarded (Cond.code yME_isGuarded prog_4_method_9_code 2 (some .boolean) :: zt_T) { frames := 0, cells := 0, slots := 0, locals := 0 } zz_ji [.ref (ad 1), .int x1] st (ME_isGuarded_f x1 st) := zz_met hV (by decide +kernel) rfl (Nat.le_of_ble_eq_true rfl) rfl (fun E h => ME_isGuarded_w hV h x1 st)
def FP_page_f (x1 : Int32) (x2 : Int32) (st : zz_S) : Option (Int32 × zz_S) := (zz_bd (ME_isPage_f x1 st) fun r_2 s_1 => (if r_2 = 0 then (some ((-1 : Int32), s_1)) else (if x2 = (0 : Int32) then (zz_bd (ME_realOf_f x1 s_1) fun r_5 s_4 => (some (r_5, s_4))) else (if x2 = (1 : Int32) then (zz_bd (ME_isGuarded_f x1 s_1) fun r_8 s_7 => (if r_8 = 0 then (some ((0 : Int32), s_7)) else (some ((1 : Int32), s_7)))) else (some ((-1 : Int32), s_1))))))
set_option maxRecDepth 100000 in
set_option maxHeartbeats 4000000 in
theorem FP_page_w {l : Launch} {D : va_G} {ad : Nat → Nat} {cA : Nat → ClassId} {tb : Nat} {E : zz_E} (hV : zz_ok (zc_V l D ad cA tb)) (h : zz_X (zc_V l D ad cA tb) E "FrameProcessor" prog_1_method_16_code 3 zt_T 1 21 (some .int)) (x1 : Int32) (x2 : Int32) (st : zz_S) : zz_Z (zc_V l D ad cA tb) E 3 0 0 (zz_q (zc_V l D ad cA tb) E zz_ji) (FP_page_f x1 x2 st) 0 [(0, .ref (ad 0)), (1, .int x1), (2, .int x2)] [] st := by
  unfold FP_page_f
  refine zz_iload_n h dFP_page_0 rfl ?_
  refine zz_callS1i h (ME_isPage_c hV _ _) ME_isPage_k zm_FP_32 rfl rfl ⟨Nat.le_of_ble_eq_true rfl, Nat.le_of_ble_eq_true rfl⟩ (Nat.le_of_ble_eq_true rfl) dFP_page_1 (fun r_2 s_1 => ?_)
  refine zz_if_ne h 9 dFP_page_4 rfl ?_ ?_
  · refine zz_iconst (v := -1) h dFP_page_7 zz_li_m1 ?_
    exact zz_iret h dFP_page_8
  · refine zz_iload_n h dFP_page_9 rfl ?_
    refine zz_ite (fun c_3 => ?_) (fun c_3 => ?_)
    · refine zz_lookup (off := 26) h 36 dFP_page_10 (by decide) c_3 (by decide) rfl ?_
      refine zz_aload_n h dFP_page_36 rfl ?_
      refine zc_g_FP_memory h zi_FP zf_FP_10 dFP_page_37 ?_
      refine zz_iload_n h dFP_page_40 rfl ?_
      refine zz_callV1i h 1 rfl rfl (ME_realOf_c hV _ _) ME_realOf_k zm_FP_140 rfl rfl ⟨Nat.le_of_ble_eq_true rfl, Nat.le_of_ble_eq_true rfl⟩ (Nat.le_of_ble_eq_true rfl) dFP_page_41 (fun r_5 s_4 => ?_)
      exact zz_iret h dFP_page_44
    refine zz_ite (fun c_6 => ?_) (fun c_6 => ?_)
    · refine zz_lookup (off := 35) h 45 dFP_page_10 (by decide) c_6 (by decide) rfl ?_
      refine zz_aload_n h dFP_page_45 rfl ?_
      refine zc_g_FP_memory h zi_FP zf_FP_10 dFP_page_46 ?_
      refine zz_iload_n h dFP_page_49 rfl ?_
      refine zz_callV1i h 1 rfl rfl (ME_isGuarded_c hV _ _) ME_isGuarded_k zm_FP_143 rfl rfl ⟨Nat.le_of_ble_eq_true rfl, Nat.le_of_ble_eq_true rfl⟩ (Nat.le_of_ble_eq_true rfl) dFP_page_50 (fun r_8 s_7 => ?_)
      refine zz_if_eq h 60 dFP_page_53 rfl ?_ ?_
      · refine zz_iconst (v := 0) h dFP_page_60 zz_li_0 ?_
        exact zz_iret h dFP_page_61
      · refine zz_iconst (v := 1) h dFP_page_56 zz_li_1 ?_
        refine zz_goto h 61 dFP_page_57 rfl ?_
        exact zz_iret h dFP_page_61
    refine zz_lookupD h 62 dFP_page_10 (by decide) ((lv_osw c_3 (by decide)).trans ((lv_osw c_6 (by decide)).trans rfl)) rfl ?_
    refine zz_iconst (v := -1) h dFP_page_62 zz_li_m1 ?_
    exact zz_iret h dFP_page_63
theorem FP_page_c {l : Launch} {D : va_G} {ad : Nat → Nat} {cA : Nat → ClassId} {tb : Nat} (hV : zz_ok (zc_V l D ad cA tb)) (x1 : Int32) (x2 : Int32) (st : zz_S) : zz_C (zc_V l D ad cA tb) yFP_page (Cond.code yFP_page prog_1_method_16_code 3 (some .int) :: zt_T) { frames := 1, cells := 0, slots := 0, locals := 21 } zz_ji [.ref (ad 0), .int x1, .int x2] st (FP_page_f x1 x2 st) := zz_met hV (by decide +kernel) rfl (Nat.le_of_ble_eq_true rfl) rfl (fun E h => FP_page_w hV h x1 x2 st)
def ME_look_f (x1 : Int32) (st : zz_S) : Option (Int32 × zz_S) := (zz_nm ((x1 >>> ((8 : Int32) &&& 31)) &&& (15 : Int32)) fun v_1 => (zz_gd (zz_in v_1 16) (zz_nm (zz_ag st 1 v_1.toNatClampNeg) fun v_2 => (if v_2 = (-1 : Int32) then (some ((0 : Int32), st)) else (zz_nm ((v_2 * (256 : Int32)) + (x1 &&& (255 : Int32))) fun v_3 => (zz_gd (zz_in v_3 3072) (some ((zz_ag st 0 v_3.toNatClampNeg), st))))))))
set_option maxRecDepth 100000 in
set_option maxHeartbeats 4000000 in
theorem ME_look_w {l : Launch} {D : va_G} {ad : Nat → Nat} {cA : Nat → ClassId} {tb : Nat} {E : zz_E} (hV : zz_ok (zc_V l D ad cA tb)) (h : zz_X (zc_V l D ad cA tb) E "FrameProcessor$Memory" prog_4_method_12_code 3 zt_T 0 0 (some .int)) (x1 : Int32) (st : zz_S) : zz_Z (zc_V l D ad cA tb) E 3 0 0 (zz_q (zc_V l D ad cA tb) E zz_ji) (ME_look_f x1 st) 0 [(0, .ref (ad 1)), (1, .int x1)] [] st := by
  unfold ME_look_f
  refine zz_aload_n h dME_look_0 rfl ?_
  refine zc_g_ME_reals h zi_ME zf_ME_15 dME_look_1 ?_
  refine zz_iload_n h dME_look_4 rfl ?_
  refine zz_bipush (v := 8) h dME_look_5 zz_lb_8 ?_
  refine zz_ishr h dME_look_7 ?_
  refine zz_bipush (v := 15) h dME_look_8 zz_lb_15 ?_
  refine zz_iand h dME_look_10 ?_
  refine zz_topi (fun v_1 => ?_)
  refine zc_ld_8 h dME_look_11 ?_
  refine zz_topi (fun v_2 => ?_)
  refine zz_istore_n h dME_look_12 (Nat.le_of_ble_eq_true rfl) ?_
  refine zz_iload_n h dME_look_13 rfl ?_
  refine zz_iconst (v := -1) h dME_look_14 zz_li_m1 ?_
  refine zz_icmp_ne h 22 dME_look_15 rfl ?_ ?_
  · refine zz_iconst (v := 0) h dME_look_18 zz_li_0 ?_
    refine zz_goto h 38 dME_look_19 rfl ?_
    exact zz_iret h dME_look_38
  · refine zz_aload_n h dME_look_22 rfl ?_
    refine zc_g_ME_words h zi_ME zf_ME_11 dME_look_23 ?_
    refine zz_iload_n h dME_look_26 rfl ?_
    refine zz_sipush (v := 256) h dME_look_27 zz_ls_256 ?_
    refine zz_imul h dME_look_30 ?_
    refine zz_iload_n h dME_look_31 rfl ?_
    refine zz_sipush (v := 255) h dME_look_32 zz_ls_255 ?_
    refine zz_iand h dME_look_35 ?_
    refine zz_iadd h dME_look_36 ?_
    refine zz_topi (fun v_3 => ?_)
    refine zc_ld_7 h dME_look_37 ?_
    exact zz_iret h dME_look_38
theorem ME_look_c {l : Launch} {D : va_G} {ad : Nat → Nat} {cA : Nat → ClassId} {tb : Nat} (hV : zz_ok (zc_V l D ad cA tb)) (x1 : Int32) (st : zz_S) : zz_C (zc_V l D ad cA tb) yME_look (Cond.code yME_look prog_4_method_12_code 3 (some .int) :: zt_T) { frames := 0, cells := 0, slots := 0, locals := 0 } zz_ji [.ref (ad 1), .int x1] st (ME_look_f x1 st) := zz_met hV (by decide +kernel) rfl (Nat.le_of_ble_eq_true rfl) rfl (fun E h => ME_look_w hV h x1 st)
def FP_free_26b (k26 : Int32 → Int32 → zz_S → Option (Int32 × zz_S)) (x2 : Int32) (x3 : Int32) (st : zz_S) : Option (Int32 × zz_S) := (if x3 = 0 then (some (x2, st)) else (if (600 : Int32) ≤ x2 then (some (x2, st)) else (zz_bd (ME_look_f x3 st) fun r_2 s_1 => (k26 (x2 + (1 : Int32)) r_2 s_1))))
def FP_free_26 : Nat → Int32 → Int32 → zz_S → Option (Int32 × zz_S)
  | 0 => fun _ _ _ => none
  | n + 1 => FP_free_26b (FP_free_26 n)
def FP_free_f (x1 : Int32) (st : zz_S) : Option (Int32 × zz_S) := (if x1 < 0 then (some ((-1 : Int32), st)) else (if x1 < (8 : Int32) then (zz_bd (ME_look_f ((16 : Int32) + x1) st) fun r_4 s_3 => (FP_free_26 601 (0 : Int32) r_4 s_3)) else (some ((-1 : Int32), st))))
set_option maxRecDepth 100000 in
set_option maxHeartbeats 4000000 in
theorem FP_free_26b_w {l : Launch} {D : va_G} {ad : Nat → Nat} {cA : Nat → ClassId} {tb : Nat} {E : zz_E} (hV : zz_ok (zc_V l D ad cA tb)) (h : zz_X (zc_V l D ad cA tb) E "FrameProcessor" prog_1_method_17_code 4 zt_T 1 22 (some .int)) {k26 : Int32 → Int32 → zz_S → Option (Int32 × zz_S)} (hk26 : ∀ (x2 : Int32) (x3 : Int32) (st : zz_S), zz_Z (zc_V l D ad cA tb) E 4 0 0 (zz_q (zc_V l D ad cA tb) E zz_ji) (k26 x2 x3 st) 26 [(0, .ref (ad 0)), (2, .int x2), (3, .int x3)] [] st) (x2 : Int32) (x3 : Int32) (st : zz_S) : zz_Z (zc_V l D ad cA tb) E 4 0 0 (zz_q (zc_V l D ad cA tb) E zz_ji) (FP_free_26b k26 x2 x3 st) 26 [(0, .ref (ad 0)), (2, .int x2), (3, .int x3)] [] st := by
  unfold FP_free_26b
  refine zz_iload_n h dFP_free_26 rfl ?_
  refine zz_if_eq h 52 dFP_free_27 rfl ?_ ?_
  · refine zz_iload_n h dFP_free_52 rfl ?_
    exact zz_iret h dFP_free_53
  · refine zz_iload_n h dFP_free_30 rfl ?_
    refine zz_sipush (v := 600) h dFP_free_31 zz_ls_600 ?_
    refine zz_icmp_ge h 52 dFP_free_34 rfl ?_ ?_
    · refine zz_iload_n h dFP_free_52 rfl ?_
      exact zz_iret h dFP_free_53
    · refine zz_iinc h (1 : Int32) dFP_free_37 zz_li_1 rfl (Nat.le_of_ble_eq_true rfl) ?_
      refine zz_aload_n h dFP_free_40 rfl ?_
      refine zc_g_FP_memory h zi_FP zf_FP_10 dFP_free_41 ?_
      refine zz_iload_n h dFP_free_44 rfl ?_
      refine zz_callV1i h 1 rfl rfl (ME_look_c hV _ _) ME_look_k zm_FP_66 rfl rfl ⟨Nat.le_of_ble_eq_true rfl, Nat.le_of_ble_eq_true rfl⟩ (Nat.le_of_ble_eq_true rfl) dFP_free_45 (fun r_2 s_1 => ?_)
      refine zz_istore_n h dFP_free_48 (Nat.le_of_ble_eq_true rfl) ?_
      refine zz_goto h 26 dFP_free_49 rfl ?_
      exact zz_sub (hk26 _ _ _) rfl
theorem FP_free_26_w {l : Launch} {D : va_G} {ad : Nat → Nat} {cA : Nat → ClassId} {tb : Nat} {E : zz_E} (hV : zz_ok (zc_V l D ad cA tb)) (h : zz_X (zc_V l D ad cA tb) E "FrameProcessor" prog_1_method_17_code 4 zt_T 1 22 (some .int)) : ∀ (n : Nat) (x2 : Int32) (x3 : Int32) (st : zz_S), zz_Z (zc_V l D ad cA tb) E 4 0 0 (zz_q (zc_V l D ad cA tb) E zz_ji) (FP_free_26 n x2 x3 st) 26 [(0, .ref (ad 0)), (2, .int x2), (3, .int x3)] [] st
  | 0, _, _, _ => zz_none
  | n + 1, x2, x3, st => FP_free_26b_w hV h (FP_free_26_w hV h n) x2 x3 st
set_option maxRecDepth 100000 in
set_option maxHeartbeats 4000000 in
theorem FP_free_w {l : Launch} {D : va_G} {ad : Nat → Nat} {cA : Nat → ClassId} {tb : Nat} {E : zz_E} (hV : zz_ok (zc_V l D ad cA tb)) (h : zz_X (zc_V l D ad cA tb) E "FrameProcessor" prog_1_method_17_code 4 zt_T 1 22 (some .int)) (x1 : Int32) (st : zz_S) : zz_Z (zc_V l D ad cA tb) E 4 0 0 (zz_q (zc_V l D ad cA tb) E zz_ji) (FP_free_f x1 st) 0 [(0, .ref (ad 0)), (1, .int x1)] [] st := by
  unfold FP_free_f
  refine zz_iload_n h dFP_free_0 rfl ?_
  refine zz_if_lt h 10 dFP_free_1 rfl ?_ ?_
  · refine zz_iconst (v := -1) h dFP_free_10 zz_li_m1 ?_
    exact zz_iret h dFP_free_11
  · refine zz_iload_n h dFP_free_4 rfl ?_
    refine zz_bipush (v := 8) h dFP_free_5 zz_lb_8 ?_
    refine zz_icmp_lt h 12 dFP_free_7 rfl ?_ ?_
    · refine zz_iconst (v := 0) h dFP_free_12 zz_li_0 ?_
      refine zz_istore_n h dFP_free_13 (Nat.le_of_ble_eq_true rfl) ?_
      refine zz_aload_n h dFP_free_14 rfl ?_
      refine zc_g_FP_memory h zi_FP zf_FP_10 dFP_free_15 ?_
      refine zz_bipush (v := 16) h dFP_free_18 zz_lb_16 ?_
      refine zz_iload_n h dFP_free_20 rfl ?_
      refine zz_iadd h dFP_free_21 ?_
      refine zz_callV1i h 1 rfl rfl (ME_look_c hV _ _) ME_look_k zm_FP_66 rfl rfl ⟨Nat.le_of_ble_eq_true rfl, Nat.le_of_ble_eq_true rfl⟩ (Nat.le_of_ble_eq_true rfl) dFP_free_22 (fun r_4 s_3 => ?_)
      refine zz_istore_n h dFP_free_25 (Nat.le_of_ble_eq_true rfl) ?_
      exact zz_sub (FP_free_26_w hV h _ _ _ _) rfl
    · refine zz_iconst (v := -1) h dFP_free_10 zz_li_m1 ?_
      exact zz_iret h dFP_free_11
theorem FP_free_c {l : Launch} {D : va_G} {ad : Nat → Nat} {cA : Nat → ClassId} {tb : Nat} (hV : zz_ok (zc_V l D ad cA tb)) (x1 : Int32) (st : zz_S) : zz_C (zc_V l D ad cA tb) yFP_free (Cond.code yFP_free prog_1_method_17_code 4 (some .int) :: zt_T) { frames := 1, cells := 0, slots := 0, locals := 22 } zz_ji [.ref (ad 0), .int x1] st (FP_free_f x1 st) := zz_met hV (by decide +kernel) rfl (Nat.le_of_ble_eq_true rfl) rfl (fun E h => FP_free_w hV h x1 st)
def ME_isRealPage_f (x0 : Int32) (st : zz_S) : Option (Int32 × zz_S) := (if x0 < 0 then (some ((0 : Int32), st)) else (if (12 : Int32) ≤ x0 then (some ((0 : Int32), st)) else (some ((1 : Int32), st))))
set_option maxRecDepth 100000 in
set_option maxHeartbeats 4000000 in
theorem ME_isRealPage_w {l : Launch} {D : va_G} {ad : Nat → Nat} {cA : Nat → ClassId} {tb : Nat} {E : zz_E} (hV : zz_ok (zc_V l D ad cA tb)) (h : zz_X (zc_V l D ad cA tb) E "FrameProcessor$Memory" prog_4_method_4_code 1 zt_T 0 0 (some .boolean)) (x0 : Int32) (st : zz_S) : zz_Z (zc_V l D ad cA tb) E 1 0 0 (zz_q (zc_V l D ad cA tb) E zz_ji) (ME_isRealPage_f x0 st) 0 [(0, .int x0)] [] st := by
  unfold ME_isRealPage_f
  refine zz_iload_n h dME_isRealPage_0 rfl ?_
  refine zz_if_lt h 14 dME_isRealPage_1 rfl ?_ ?_
  · refine zz_iconst (v := 0) h dME_isRealPage_14 zz_li_0 ?_
    exact zz_zret h dME_isRealPage_15 (by decide +kernel)
  · refine zz_iload_n h dME_isRealPage_4 rfl ?_
    refine zz_bipush (v := 12) h dME_isRealPage_5 zz_lb_12 ?_
    refine zz_icmp_ge h 14 dME_isRealPage_7 rfl ?_ ?_
    · refine zz_iconst (v := 0) h dME_isRealPage_14 zz_li_0 ?_
      exact zz_zret h dME_isRealPage_15 (by decide +kernel)
    · refine zz_iconst (v := 1) h dME_isRealPage_10 zz_li_1 ?_
      refine zz_goto h 15 dME_isRealPage_11 rfl ?_
      exact zz_zret h dME_isRealPage_15 (by decide +kernel)
theorem ME_isRealPage_c {l : Launch} {D : va_G} {ad : Nat → Nat} {cA : Nat → ClassId} {tb : Nat} (hV : zz_ok (zc_V l D ad cA tb)) (x0 : Int32) (st : zz_S) : zz_C (zc_V l D ad cA tb) yME_isRealPage (Cond.code yME_isRealPage prog_4_method_4_code 1 (some .boolean) :: zt_T) { frames := 0, cells := 0, slots := 0, locals := 0 } zz_ji [.int x0] st (ME_isRealPage_f x0 st) := zz_met hV (by decide +kernel) rfl (Nat.le_of_ble_eq_true rfl) rfl (fun E h => ME_isRealPage_w hV h x0 st)
def ME_assign_f (x1 : Int32) (x2 : Int32) (st : zz_S) : Option (Unit × zz_S) := (zz_gd (zz_in x1 16) (zz_nm (zz_ap st 1 x1.toNatClampNeg x2) fun s_1 => (some ((), s_1))))
set_option maxRecDepth 100000 in
set_option maxHeartbeats 4000000 in
theorem ME_assign_w {l : Launch} {D : va_G} {ad : Nat → Nat} {cA : Nat → ClassId} {tb : Nat} {E : zz_E} (hV : zz_ok (zc_V l D ad cA tb)) (h : zz_X (zc_V l D ad cA tb) E "FrameProcessor$Memory" prog_4_method_6_code 3 zt_T 0 0 none) (x1 : Int32) (x2 : Int32) (st : zz_S) : zz_Z (zc_V l D ad cA tb) E 3 0 0 (zz_q (zc_V l D ad cA tb) E zz_jv) (ME_assign_f x1 x2 st) 0 [(0, .ref (ad 1)), (1, .int x1), (2, .int x2)] [] st := by
  unfold ME_assign_f
  refine zz_aload_n h dME_assign_0 rfl ?_
  refine zc_g_ME_reals h zi_ME zf_ME_15 dME_assign_1 ?_
  refine zz_iload_n h dME_assign_4 rfl ?_
  refine zz_iload_n h dME_assign_5 rfl ?_
  refine zc_st_8 h dME_assign_6 (fun s_1 => ?_)
  exact zz_vret h dME_assign_7
theorem ME_assign_c {l : Launch} {D : va_G} {ad : Nat → Nat} {cA : Nat → ClassId} {tb : Nat} (hV : zz_ok (zc_V l D ad cA tb)) (x1 : Int32) (x2 : Int32) (st : zz_S) : zz_C (zc_V l D ad cA tb) yME_assign (Cond.code yME_assign prog_4_method_6_code 3 none :: zt_T) { frames := 0, cells := 0, slots := 0, locals := 0 } zz_jv [.ref (ad 1), .int x1, .int x2] st (ME_assign_f x1 x2 st) := zz_met hV (by decide +kernel) rfl (Nat.le_of_ble_eq_true rfl) rfl (fun E h => ME_assign_w hV h x1 x2 st)
def ME_setGuarded_f (x1 : Int32) (x2 : Int32) (st : zz_S) : Option (Unit × zz_S) := (zz_gd (zz_in x1 16) (zz_nm (zz_ap st 2 x1.toNatClampNeg (zz_bn x2)) fun s_1 => (some ((), s_1))))
set_option maxRecDepth 100000 in
set_option maxHeartbeats 4000000 in
theorem ME_setGuarded_w {l : Launch} {D : va_G} {ad : Nat → Nat} {cA : Nat → ClassId} {tb : Nat} {E : zz_E} (hV : zz_ok (zc_V l D ad cA tb)) (h : zz_X (zc_V l D ad cA tb) E "FrameProcessor$Memory" prog_4_method_8_code 3 zt_T 0 0 none) (x1 : Int32) (x2 : Int32) (st : zz_S) : zz_Z (zc_V l D ad cA tb) E 3 0 0 (zz_q (zc_V l D ad cA tb) E zz_jv) (ME_setGuarded_f x1 x2 st) 0 [(0, .ref (ad 1)), (1, .int x1), (2, .int x2)] [] st := by
  unfold ME_setGuarded_f
  refine zz_aload_n h dME_setGuarded_0 rfl ?_
  refine zc_g_ME_guarded h zi_ME zf_ME_18 dME_setGuarded_1 ?_
  refine zz_iload_n h dME_setGuarded_4 rfl ?_
  refine zz_iload_n h dME_setGuarded_5 rfl ?_
  refine zc_st_9 h dME_setGuarded_6 (fun s_1 => ?_)
  exact zz_vret h dME_setGuarded_7
theorem ME_setGuarded_c {l : Launch} {D : va_G} {ad : Nat → Nat} {cA : Nat → ClassId} {tb : Nat} (hV : zz_ok (zc_V l D ad cA tb)) (x1 : Int32) (x2 : Int32) (st : zz_S) : zz_C (zc_V l D ad cA tb) yME_setGuarded (Cond.code yME_setGuarded prog_4_method_8_code 3 none :: zt_T) { frames := 0, cells := 0, slots := 0, locals := 0 } zz_jv [.ref (ad 1), .int x1, .int x2] st (ME_setGuarded_f x1 x2 st) := zz_met hV (by decide +kernel) rfl (Nat.le_of_ble_eq_true rfl) rfl (fun E h => ME_setGuarded_w hV h x1 x2 st)
def ME_takeNotes_f (x1 : Int32) (st : zz_S) : Option (Int32 × zz_S) := (zz_gd (zz_in x1 12) (zz_nm (zz_ag st 3 x1.toNatClampNeg) fun v_1 => (zz_gd (zz_in x1 12) (zz_nm (zz_ap st 3 x1.toNatClampNeg (0 : Int32)) fun s_2 => (some (v_1, s_2))))))
set_option maxRecDepth 100000 in
set_option maxHeartbeats 4000000 in
theorem ME_takeNotes_w {l : Launch} {D : va_G} {ad : Nat → Nat} {cA : Nat → ClassId} {tb : Nat} {E : zz_E} (hV : zz_ok (zc_V l D ad cA tb)) (h : zz_X (zc_V l D ad cA tb) E "FrameProcessor$Memory" prog_4_method_10_code 3 zt_T 0 0 (some .int)) (x1 : Int32) (st : zz_S) : zz_Z (zc_V l D ad cA tb) E 3 0 0 (zz_q (zc_V l D ad cA tb) E zz_ji) (ME_takeNotes_f x1 st) 0 [(0, .ref (ad 1)), (1, .int x1)] [] st := by
  unfold ME_takeNotes_f
  refine zz_aload_n h dME_takeNotes_0 rfl ?_
  refine zc_g_ME_notes h zi_ME zf_ME_22 dME_takeNotes_1 ?_
  refine zz_iload_n h dME_takeNotes_4 rfl ?_
  refine zc_ld_10 h dME_takeNotes_5 ?_
  refine zz_topi (fun v_1 => ?_)
  refine zz_istore_n h dME_takeNotes_6 (Nat.le_of_ble_eq_true rfl) ?_
  refine zz_aload_n h dME_takeNotes_7 rfl ?_
  refine zc_g_ME_notes h zi_ME zf_ME_22 dME_takeNotes_8 ?_
  refine zz_iload_n h dME_takeNotes_11 rfl ?_
  refine zz_iconst (v := 0) h dME_takeNotes_12 zz_li_0 ?_
  refine zc_st_10 h dME_takeNotes_13 (fun s_2 => ?_)
  refine zz_iload_n h dME_takeNotes_14 rfl ?_
  exact zz_iret h dME_takeNotes_15
theorem ME_takeNotes_c {l : Launch} {D : va_G} {ad : Nat → Nat} {cA : Nat → ClassId} {tb : Nat} (hV : zz_ok (zc_V l D ad cA tb)) (x1 : Int32) (st : zz_S) : zz_C (zc_V l D ad cA tb) yME_takeNotes (Cond.code yME_takeNotes prog_4_method_10_code 3 (some .int) :: zt_T) { frames := 0, cells := 0, slots := 0, locals := 0 } zz_ji [.ref (ad 1), .int x1] st (ME_takeNotes_f x1 st) := zz_met hV (by decide +kernel) rfl (Nat.le_of_ble_eq_true rfl) rfl (fun E h => ME_takeNotes_w hV h x1 st)
def ME_isAddress_f (x0 : Int32) (st : zz_S) : Option (Int32 × zz_S) := (if x0 < 0 then (some ((0 : Int32), st)) else (if (4096 : Int32) ≤ x0 then (some ((0 : Int32), st)) else (some ((1 : Int32), st))))
set_option maxRecDepth 100000 in
set_option maxHeartbeats 4000000 in
theorem ME_isAddress_w {l : Launch} {D : va_G} {ad : Nat → Nat} {cA : Nat → ClassId} {tb : Nat} {E : zz_E} (hV : zz_ok (zc_V l D ad cA tb)) (h : zz_X (zc_V l D ad cA tb) E "FrameProcessor$Memory" prog_4_method_2_code 1 zt_T 0 0 (some .boolean)) (x0 : Int32) (st : zz_S) : zz_Z (zc_V l D ad cA tb) E 1 0 0 (zz_q (zc_V l D ad cA tb) E zz_ji) (ME_isAddress_f x0 st) 0 [(0, .int x0)] [] st := by
  unfold ME_isAddress_f
  refine zz_iload_n h dME_isAddress_0 rfl ?_
  refine zz_if_lt h 15 dME_isAddress_1 rfl ?_ ?_
  · refine zz_iconst (v := 0) h dME_isAddress_15 zz_li_0 ?_
    exact zz_zret h dME_isAddress_16 (by decide +kernel)
  · refine zz_iload_n h dME_isAddress_4 rfl ?_
    refine zz_sipush (v := 4096) h dME_isAddress_5 zz_ls_4096 ?_
    refine zz_icmp_ge h 15 dME_isAddress_8 rfl ?_ ?_
    · refine zz_iconst (v := 0) h dME_isAddress_15 zz_li_0 ?_
      exact zz_zret h dME_isAddress_16 (by decide +kernel)
    · refine zz_iconst (v := 1) h dME_isAddress_11 zz_li_1 ?_
      refine zz_goto h 16 dME_isAddress_12 rfl ?_
      exact zz_zret h dME_isAddress_16 (by decide +kernel)
theorem ME_isAddress_c {l : Launch} {D : va_G} {ad : Nat → Nat} {cA : Nat → ClassId} {tb : Nat} (hV : zz_ok (zc_V l D ad cA tb)) (x0 : Int32) (st : zz_S) : zz_C (zc_V l D ad cA tb) yME_isAddress (Cond.code yME_isAddress prog_4_method_2_code 1 (some .boolean) :: zt_T) { frames := 0, cells := 0, slots := 0, locals := 0 } zz_ji [.int x0] st (ME_isAddress_f x0 st) := zz_met hV (by decide +kernel) rfl (Nat.le_of_ble_eq_true rfl) rfl (fun E h => ME_isAddress_w hV h x0 st)
def ME_isThere_f (x1 : Int32) (st : zz_S) : Option (Int32 × zz_S) := (zz_nm ((x1 >>> ((8 : Int32) &&& 31)) &&& (15 : Int32)) fun v_1 => (zz_gd (zz_in v_1 16) (if (zz_ag st 1 v_1.toNatClampNeg) = (-1 : Int32) then (some ((0 : Int32), st)) else (some ((1 : Int32), st)))))
set_option maxRecDepth 100000 in
set_option maxHeartbeats 4000000 in
theorem ME_isThere_w {l : Launch} {D : va_G} {ad : Nat → Nat} {cA : Nat → ClassId} {tb : Nat} {E : zz_E} (hV : zz_ok (zc_V l D ad cA tb)) (h : zz_X (zc_V l D ad cA tb) E "FrameProcessor$Memory" prog_4_method_11_code 2 zt_T 0 0 (some .boolean)) (x1 : Int32) (st : zz_S) : zz_Z (zc_V l D ad cA tb) E 2 0 0 (zz_q (zc_V l D ad cA tb) E zz_ji) (ME_isThere_f x1 st) 0 [(0, .ref (ad 1)), (1, .int x1)] [] st := by
  unfold ME_isThere_f
  refine zz_aload_n h dME_isThere_0 rfl ?_
  refine zc_g_ME_reals h zi_ME zf_ME_15 dME_isThere_1 ?_
  refine zz_iload_n h dME_isThere_4 rfl ?_
  refine zz_bipush (v := 8) h dME_isThere_5 zz_lb_8 ?_
  refine zz_ishr h dME_isThere_7 ?_
  refine zz_bipush (v := 15) h dME_isThere_8 zz_lb_15 ?_
  refine zz_iand h dME_isThere_10 ?_
  refine zz_topi (fun v_1 => ?_)
  refine zc_ld_8 h dME_isThere_11 ?_
  refine zz_iconst (v := -1) h dME_isThere_12 zz_li_m1 ?_
  refine zz_icmp_eq h 20 dME_isThere_13 rfl ?_ ?_
  · refine zz_iconst (v := 0) h dME_isThere_20 zz_li_0 ?_
    exact zz_zret h dME_isThere_21 (by decide +kernel)
  · refine zz_iconst (v := 1) h dME_isThere_16 zz_li_1 ?_
    refine zz_goto h 21 dME_isThere_17 rfl ?_
    exact zz_zret h dME_isThere_21 (by decide +kernel)
theorem ME_isThere_c {l : Launch} {D : va_G} {ad : Nat → Nat} {cA : Nat → ClassId} {tb : Nat} (hV : zz_ok (zc_V l D ad cA tb)) (x1 : Int32) (st : zz_S) : zz_C (zc_V l D ad cA tb) yME_isThere (Cond.code yME_isThere prog_4_method_11_code 2 (some .boolean) :: zt_T) { frames := 0, cells := 0, slots := 0, locals := 0 } zz_ji [.ref (ad 1), .int x1] st (ME_isThere_f x1 st) := zz_met hV (by decide +kernel) rfl (Nat.le_of_ble_eq_true rfl) rfl (fun E h => ME_isThere_w hV h x1 st)
def ME_put_f (x1 : Int32) (x2 : Int32) (st : zz_S) : Option (Unit × zz_S) := (zz_nm ((x1 >>> ((8 : Int32) &&& 31)) &&& (15 : Int32)) fun v_1 => (zz_gd (zz_in v_1 16) (zz_nm (zz_ag st 1 v_1.toNatClampNeg) fun v_2 => (if v_2 = (-1 : Int32) then (some ((), st)) else (zz_nm ((v_2 * (256 : Int32)) + (x1 &&& (255 : Int32))) fun v_3 => (zz_gd (zz_in v_3 3072) (zz_nm (zz_ap st 0 v_3.toNatClampNeg (x2 &&& (65535 : Int32))) fun s_4 => (some ((), s_4)))))))))
set_option maxRecDepth 100000 in
set_option maxHeartbeats 4000000 in
theorem ME_put_w {l : Launch} {D : va_G} {ad : Nat → Nat} {cA : Nat → ClassId} {tb : Nat} {E : zz_E} (hV : zz_ok (zc_V l D ad cA tb)) (h : zz_X (zc_V l D ad cA tb) E "FrameProcessor$Memory" prog_4_method_13_code 4 zt_T 0 0 none) (x1 : Int32) (x2 : Int32) (st : zz_S) : zz_Z (zc_V l D ad cA tb) E 4 0 0 (zz_q (zc_V l D ad cA tb) E zz_jv) (ME_put_f x1 x2 st) 0 [(0, .ref (ad 1)), (1, .int x1), (2, .int x2)] [] st := by
  unfold ME_put_f
  refine zz_aload_n h dME_put_0 rfl ?_
  refine zc_g_ME_reals h zi_ME zf_ME_15 dME_put_1 ?_
  refine zz_iload_n h dME_put_4 rfl ?_
  refine zz_bipush (v := 8) h dME_put_5 zz_lb_8 ?_
  refine zz_ishr h dME_put_7 ?_
  refine zz_bipush (v := 15) h dME_put_8 zz_lb_15 ?_
  refine zz_iand h dME_put_10 ?_
  refine zz_topi (fun v_1 => ?_)
  refine zc_ld_8 h dME_put_11 ?_
  refine zz_topi (fun v_2 => ?_)
  refine zz_istore_n h dME_put_12 (Nat.le_of_ble_eq_true rfl) ?_
  refine zz_iload_n h dME_put_13 rfl ?_
  refine zz_iconst (v := -1) h dME_put_14 zz_li_m1 ?_
  refine zz_icmp_eq h 38 dME_put_15 rfl ?_ ?_
  · exact zz_vret h dME_put_38
  · refine zz_aload_n h dME_put_18 rfl ?_
    refine zc_g_ME_words h zi_ME zf_ME_11 dME_put_19 ?_
    refine zz_iload_n h dME_put_22 rfl ?_
    refine zz_sipush (v := 256) h dME_put_23 zz_ls_256 ?_
    refine zz_imul h dME_put_26 ?_
    refine zz_iload_n h dME_put_27 rfl ?_
    refine zz_sipush (v := 255) h dME_put_28 zz_ls_255 ?_
    refine zz_iand h dME_put_31 ?_
    refine zz_iadd h dME_put_32 ?_
    refine zz_iload_n h dME_put_33 rfl ?_
    refine zz_ldc (v := 65535) h dME_put_34 zc_ME_31 ?_
    refine zz_iand h dME_put_36 ?_
    refine zz_top2 (fun v_3 => ?_)
    refine zc_st_7 h dME_put_37 (fun s_4 => ?_)
    exact zz_vret h dME_put_38
theorem ME_put_c {l : Launch} {D : va_G} {ad : Nat → Nat} {cA : Nat → ClassId} {tb : Nat} (hV : zz_ok (zc_V l D ad cA tb)) (x1 : Int32) (x2 : Int32) (st : zz_S) : zz_C (zc_V l D ad cA tb) yME_put (Cond.code yME_put prog_4_method_13_code 4 none :: zt_T) { frames := 0, cells := 0, slots := 0, locals := 0 } zz_jv [.ref (ad 1), .int x1, .int x2] st (ME_put_f x1 x2 st) := zz_met hV (by decide +kernel) rfl (Nat.le_of_ble_eq_true rfl) rfl (fun E h => ME_put_w hV h x1 x2 st)
def ME_begin_f (st : zz_S) : Option (Unit × zz_S) := (zz_nm (zz_sp st 0 (0 : Int32)) fun s_1 => (zz_nm (zz_sp s_1 1 (0 : Int32)) fun s_2 => (some ((), s_2))))
set_option maxRecDepth 100000 in
set_option maxHeartbeats 4000000 in
theorem ME_begin_w {l : Launch} {D : va_G} {ad : Nat → Nat} {cA : Nat → ClassId} {tb : Nat} {E : zz_E} (hV : zz_ok (zc_V l D ad cA tb)) (h : zz_X (zc_V l D ad cA tb) E "FrameProcessor$Memory" prog_4_method_15_code 1 zt_T 0 0 none) (st : zz_S) : zz_Z (zc_V l D ad cA tb) E 1 0 0 (zz_q (zc_V l D ad cA tb) E zz_jv) (ME_begin_f  st) 0 [(0, .ref (ad 1))] [] st := by
  unfold ME_begin_f
  refine zz_aload_n h dME_begin_0 rfl ?_
  refine zz_iconst (v := 0) h dME_begin_1 zz_li_0 ?_
  refine zc_p_ME_writes h zi_ME zf_ME_40 dME_begin_2 (fun s_1 => ?_)
  refine zz_aload_n h dME_begin_5 rfl ?_
  refine zz_iconst (v := 0) h dME_begin_6 zz_li_0 ?_
  refine zc_p_ME_fault h zi_ME zf_ME_44 dME_begin_7 (fun s_2 => ?_)
  exact zz_vret h dME_begin_10
theorem ME_begin_c {l : Launch} {D : va_G} {ad : Nat → Nat} {cA : Nat → ClassId} {tb : Nat} (hV : zz_ok (zc_V l D ad cA tb)) (st : zz_S) : zz_C (zc_V l D ad cA tb) yME_begin (Cond.code yME_begin prog_4_method_15_code 1 none :: zt_T) { frames := 0, cells := 0, slots := 0, locals := 0 } zz_jv [.ref (ad 1)] st (ME_begin_f  st) := zz_met hV (by decide +kernel) rfl (Nat.le_of_ble_eq_true rfl) rfl (fun E h => ME_begin_w hV h  st)
def RO_leastFree_2b (k2 : Int32 → zz_S → Option (Option Nat × zz_S)) (x1 : Int32) (st : zz_S) : Option (Option Nat × zz_S) := (if (6 : Int32) ≤ x1 then (some ((none : Option Nat), st)) else (zz_gd (zz_in x1 6) (zz_nm x1.toNatClampNeg fun t_1 => (if (zz_ag st 7 t_1) = 0 then (zz_gd (zz_in x1 6) (zz_nm x1.toNatClampNeg fun t_2 => (some ((some t_2 : Option Nat), st)))) else (k2 (x1 + (1 : Int32)) st)))))
def RO_leastFree_2 : Nat → Int32 → zz_S → Option (Option Nat × zz_S)
  | 0 => fun _ _ => none
  | n + 1 => RO_leastFree_2b (RO_leastFree_2 n)
def RO_leastFree_f (st : zz_S) : Option (Option Nat × zz_S) := (RO_leastFree_2 10 (0 : Int32) st)
set_option maxRecDepth 100000 in
set_option maxHeartbeats 4000000 in
theorem RO_leastFree_2b_w {l : Launch} {D : va_G} {ad : Nat → Nat} {cA : Nat → ClassId} {tb : Nat} {E : zz_E} (hV : zz_ok (zc_V l D ad cA tb)) (h : zz_X (zc_V l D ad cA tb) E "FrameProcessor$Roster" prog_6_method_3_code 2 zt_T 0 0 (some (.object "FrameProcessor$Task"))) {k2 : Int32 → zz_S → Option (Option Nat × zz_S)} (hk2 : ∀ (x1 : Int32) (st : zz_S), zz_Z (zc_V l D ad cA tb) E 2 0 0 (zz_q (zc_V l D ad cA tb) E (zz_jq (fun t => ad (15 + t)))) (k2 x1 st) 2 [(0, .ref (ad 2)), (1, .int x1)] [] st) (x1 : Int32) (st : zz_S) : zz_Z (zc_V l D ad cA tb) E 2 0 0 (zz_q (zc_V l D ad cA tb) E (zz_jq (fun t => ad (15 + t)))) (RO_leastFree_2b k2 x1 st) 2 [(0, .ref (ad 2)), (1, .int x1)] [] st := by
  unfold RO_leastFree_2b
  refine zz_iload_n h dRO_leastFree_2 rfl ?_
  refine zz_bipush (v := 6) h dRO_leastFree_3 zz_lb_6 ?_
  refine zz_icmp_ge h 33 dRO_leastFree_5 rfl ?_ ?_
  · refine zz_null h dRO_leastFree_33 ?_
    exact zz_aret h rfl dRO_leastFree_34
  · refine zz_aload_n h dRO_leastFree_8 rfl ?_
    refine zc_g_RO_tasks h zi_RO zf_RO_13 dRO_leastFree_9 ?_
    refine zz_iload_n h dRO_leastFree_12 rfl ?_
    refine zc_ld_13 h dRO_leastFree_13 (fun t_1 ht_1 => ?_)
    refine zc_g_TA_state ht_1 h zi_TA zf_RO_20 dRO_leastFree_14 ?_
    refine zz_if_ne h 27 dRO_leastFree_17 rfl ?_ ?_
    · refine zz_aload_n h dRO_leastFree_20 rfl ?_
      refine zc_g_RO_tasks h zi_RO zf_RO_13 dRO_leastFree_21 ?_
      refine zz_iload_n h dRO_leastFree_24 rfl ?_
      refine zc_ld_13 h dRO_leastFree_25 (fun t_2 ht_2 => ?_)
      exact zz_aret h rfl dRO_leastFree_26
    · refine zz_iinc h (1 : Int32) dRO_leastFree_27 zz_li_1 rfl (Nat.le_of_ble_eq_true rfl) ?_
      refine zz_goto h 2 dRO_leastFree_30 rfl ?_
      exact zz_sub (hk2 _ _) rfl
theorem RO_leastFree_2_w {l : Launch} {D : va_G} {ad : Nat → Nat} {cA : Nat → ClassId} {tb : Nat} {E : zz_E} (hV : zz_ok (zc_V l D ad cA tb)) (h : zz_X (zc_V l D ad cA tb) E "FrameProcessor$Roster" prog_6_method_3_code 2 zt_T 0 0 (some (.object "FrameProcessor$Task"))) : ∀ (n : Nat) (x1 : Int32) (st : zz_S), zz_Z (zc_V l D ad cA tb) E 2 0 0 (zz_q (zc_V l D ad cA tb) E (zz_jq (fun t => ad (15 + t)))) (RO_leastFree_2 n x1 st) 2 [(0, .ref (ad 2)), (1, .int x1)] [] st
  | 0, _, _ => zz_none
  | n + 1, x1, st => RO_leastFree_2b_w hV h (RO_leastFree_2_w hV h n) x1 st
set_option maxRecDepth 100000 in
set_option maxHeartbeats 4000000 in
theorem RO_leastFree_w {l : Launch} {D : va_G} {ad : Nat → Nat} {cA : Nat → ClassId} {tb : Nat} {E : zz_E} (hV : zz_ok (zc_V l D ad cA tb)) (h : zz_X (zc_V l D ad cA tb) E "FrameProcessor$Roster" prog_6_method_3_code 2 zt_T 0 0 (some (.object "FrameProcessor$Task"))) (st : zz_S) : zz_Z (zc_V l D ad cA tb) E 2 0 0 (zz_q (zc_V l D ad cA tb) E (zz_jq (fun t => ad (15 + t)))) (RO_leastFree_f  st) 0 [(0, .ref (ad 2))] [] st := by
  unfold RO_leastFree_f
  refine zz_iconst (v := 0) h dRO_leastFree_0 zz_li_0 ?_
  refine zz_istore_n h dRO_leastFree_1 (Nat.le_of_ble_eq_true rfl) ?_
  exact zz_sub (RO_leastFree_2_w hV h _ _ _) rfl
theorem RO_leastFree_c {l : Launch} {D : va_G} {ad : Nat → Nat} {cA : Nat → ClassId} {tb : Nat} (hV : zz_ok (zc_V l D ad cA tb)) (st : zz_S) : zz_C (zc_V l D ad cA tb) yRO_leastFree (Cond.code yRO_leastFree prog_6_method_3_code 2 (some (.object "FrameProcessor$Task")) :: zt_T) { frames := 0, cells := 0, slots := 0, locals := 0 } (zz_jq (fun t => ad (15 + t))) [.ref (ad 2)] st (RO_leastFree_f  st) := zz_met hV (by decide +kernel) rfl (Nat.le_of_ble_eq_true rfl) rfl (fun E h => RO_leastFree_w hV h  st)
def ME_fail_f (x1 : Int32) (st : zz_S) : Option (Unit × zz_S) := (if (zz_sg st 1) = 0 then (zz_nm (zz_sp st 1 x1) fun s_1 => (some ((), s_1))) else (some ((), st)))
set_option maxRecDepth 100000 in
set_option maxHeartbeats 4000000 in
theorem ME_fail_w {l : Launch} {D : va_G} {ad : Nat → Nat} {cA : Nat → ClassId} {tb : Nat} {E : zz_E} (hV : zz_ok (zc_V l D ad cA tb)) (h : zz_X (zc_V l D ad cA tb) E "FrameProcessor$Memory" prog_4_method_18_code 2 zt_T 0 0 none) (x1 : Int32) (st : zz_S) : zz_Z (zc_V l D ad cA tb) E 2 0 0 (zz_q (zc_V l D ad cA tb) E zz_jv) (ME_fail_f x1 st) 0 [(0, .ref (ad 1)), (1, .int x1)] [] st := by
  unfold ME_fail_f
  refine zz_aload_n h dME_fail_0 rfl ?_
  refine zc_g_ME_fault h zi_ME zf_ME_44 dME_fail_1 ?_
  refine zz_if_ne h 12 dME_fail_4 rfl ?_ ?_
  · refine zz_aload_n h dME_fail_7 rfl ?_
    refine zz_iload_n h dME_fail_8 rfl ?_
    refine zc_p_ME_fault h zi_ME zf_ME_44 dME_fail_9 (fun s_1 => ?_)
    exact zz_vret h dME_fail_12
  · exact zz_vret h dME_fail_12
theorem ME_fail_c {l : Launch} {D : va_G} {ad : Nat → Nat} {cA : Nat → ClassId} {tb : Nat} (hV : zz_ok (zc_V l D ad cA tb)) (x1 : Int32) (st : zz_S) : zz_C (zc_V l D ad cA tb) yME_fail (Cond.code yME_fail prog_4_method_18_code 2 none :: zt_T) { frames := 0, cells := 0, slots := 0, locals := 0 } zz_jv [.ref (ad 1), .int x1] st (ME_fail_f x1 st) := zz_met hV (by decide +kernel) rfl (Nat.le_of_ble_eq_true rfl) rfl (fun E h => ME_fail_w hV h x1 st)
def FR_isElsewhere_f (x0 : Int32) (st : zz_S) : Option (Int32 × zz_S) := (if (x0 &&& (3 : Int32)) = (2 : Int32) then (some ((1 : Int32), st)) else (some ((0 : Int32), st)))
set_option maxRecDepth 100000 in
set_option maxHeartbeats 4000000 in
theorem FR_isElsewhere_w {l : Launch} {D : va_G} {ad : Nat → Nat} {cA : Nat → ClassId} {tb : Nat} {E : zz_E} (hV : zz_ok (zc_V l D ad cA tb)) (h : zz_X (zc_V l D ad cA tb) E "FrameProcessor$Frames" prog_2_method_5_code 1 zt_T 0 0 (some .boolean)) (x0 : Int32) (st : zz_S) : zz_Z (zc_V l D ad cA tb) E 1 0 0 (zz_q (zc_V l D ad cA tb) E zz_ji) (FR_isElsewhere_f x0 st) 0 [(0, .int x0)] [] st := by
  unfold FR_isElsewhere_f
  refine zz_iload_n h dFR_isElsewhere_0 rfl ?_
  refine zz_iconst (v := 3) h dFR_isElsewhere_1 zz_li_3 ?_
  refine zz_iand h dFR_isElsewhere_2 ?_
  refine zz_iconst (v := 2) h dFR_isElsewhere_3 zz_li_2 ?_
  refine zz_icmp_ne h 11 dFR_isElsewhere_4 rfl ?_ ?_
  · refine zz_iconst (v := 1) h dFR_isElsewhere_7 zz_li_1 ?_
    refine zz_goto h 12 dFR_isElsewhere_8 rfl ?_
    exact zz_zret h dFR_isElsewhere_12 (by decide +kernel)
  · refine zz_iconst (v := 0) h dFR_isElsewhere_11 zz_li_0 ?_
    exact zz_zret h dFR_isElsewhere_12 (by decide +kernel)
theorem FR_isElsewhere_c {l : Launch} {D : va_G} {ad : Nat → Nat} {cA : Nat → ClassId} {tb : Nat} (hV : zz_ok (zc_V l D ad cA tb)) (x0 : Int32) (st : zz_S) : zz_C (zc_V l D ad cA tb) yFR_isElsewhere (Cond.code yFR_isElsewhere prog_2_method_5_code 1 (some .boolean) :: zt_T) { frames := 0, cells := 0, slots := 0, locals := 0 } zz_ji [.int x0] st (FR_isElsewhere_f x0 st) := zz_met hV (by decide +kernel) rfl (Nat.le_of_ble_eq_true rfl) rfl (fun E h => FR_isElsewhere_w hV h x0 st)
def ME_read_30 (x1 : Int32) (x2 : Int32) (st : zz_S) : Option (Int32 × zz_S) := (if (zz_sg st 1) = 0 then (zz_gd (zz_in x2 12) (zz_gd (zz_in x2 12) (zz_nm (zz_ap st 3 x2.toNatClampNeg ((zz_ag st 3 x2.toNatClampNeg) ||| (1 : Int32))) fun s_1 => (zz_nm ((x2 * (256 : Int32)) + (x1 &&& (255 : Int32))) fun v_2 => (zz_gd (zz_in v_2 3072) (some ((zz_ag s_1 0 v_2.toNatClampNeg), s_1))))))) else (some ((0 : Int32), st)))
def ME_read_f (x1 : Int32) (st : zz_S) : Option (Int32 × zz_S) := (zz_nm ((x1 >>> ((8 : Int32) &&& 31)) &&& (15 : Int32)) fun v_3 => (zz_gd (zz_in v_3 16) (zz_nm (zz_ag st 1 v_3.toNatClampNeg) fun v_4 => (if (zz_sg st 1) = 0 then (if v_4 = (-1 : Int32) then (zz_nm (zz_sp st 1 (1 : Int32)) fun s_5 => (ME_read_30 x1 v_4 s_5)) else (ME_read_30 x1 v_4 st)) else (ME_read_30 x1 v_4 st)))))
set_option maxRecDepth 100000 in
set_option maxHeartbeats 4000000 in
theorem ME_read_30_w {l : Launch} {D : va_G} {ad : Nat → Nat} {cA : Nat → ClassId} {tb : Nat} {E : zz_E} (hV : zz_ok (zc_V l D ad cA tb)) (h : zz_X (zc_V l D ad cA tb) E "FrameProcessor$Memory" prog_4_method_19_code 3 zt_T 0 0 (some .int)) (x1 : Int32) (x2 : Int32) (st : zz_S) : zz_Z (zc_V l D ad cA tb) E 3 0 0 (zz_q (zc_V l D ad cA tb) E zz_ji) (ME_read_30 x1 x2 st) 30 [(0, .ref (ad 1)), (1, .int x1), (2, .int x2)] [] st := by
  unfold ME_read_30
  refine zz_aload_n h dME_read_30 rfl ?_
  refine zc_g_ME_fault h zi_ME zf_ME_44 dME_read_31 ?_
  refine zz_if_eq h 39 dME_read_34 rfl ?_ ?_
  · refine zz_aload_n h dME_read_39 rfl ?_
    refine zc_g_ME_notes h zi_ME zf_ME_22 dME_read_40 ?_
    refine zz_iload_n h dME_read_43 rfl ?_
    refine zz_dup2 h dME_read_44 rfl rfl ?_
    refine zc_ld_10 h dME_read_45 ?_
    refine zz_iconst (v := 1) h dME_read_46 zz_li_1 ?_
    refine zz_ior h dME_read_47 ?_
    refine zc_st_10 h dME_read_48 (fun s_1 => ?_)
    refine zz_aload_n h dME_read_49 rfl ?_
    refine zc_g_ME_words h zi_ME zf_ME_11 dME_read_50 ?_
    refine zz_iload_n h dME_read_53 rfl ?_
    refine zz_sipush (v := 256) h dME_read_54 zz_ls_256 ?_
    refine zz_imul h dME_read_57 ?_
    refine zz_iload_n h dME_read_58 rfl ?_
    refine zz_sipush (v := 255) h dME_read_59 zz_ls_255 ?_
    refine zz_iand h dME_read_62 ?_
    refine zz_iadd h dME_read_63 ?_
    refine zz_topi (fun v_2 => ?_)
    refine zc_ld_7 h dME_read_64 ?_
    exact zz_iret h dME_read_65
  · refine zz_iconst (v := 0) h dME_read_37 zz_li_0 ?_
    exact zz_iret h dME_read_38
set_option maxRecDepth 100000 in
set_option maxHeartbeats 4000000 in
theorem ME_read_w {l : Launch} {D : va_G} {ad : Nat → Nat} {cA : Nat → ClassId} {tb : Nat} {E : zz_E} (hV : zz_ok (zc_V l D ad cA tb)) (h : zz_X (zc_V l D ad cA tb) E "FrameProcessor$Memory" prog_4_method_19_code 3 zt_T 0 0 (some .int)) (x1 : Int32) (st : zz_S) : zz_Z (zc_V l D ad cA tb) E 3 0 0 (zz_q (zc_V l D ad cA tb) E zz_ji) (ME_read_f x1 st) 0 [(0, .ref (ad 1)), (1, .int x1)] [] st := by
  unfold ME_read_f
  refine zz_aload_n h dME_read_0 rfl ?_
  refine zc_g_ME_reals h zi_ME zf_ME_15 dME_read_1 ?_
  refine zz_iload_n h dME_read_4 rfl ?_
  refine zz_bipush (v := 8) h dME_read_5 zz_lb_8 ?_
  refine zz_ishr h dME_read_7 ?_
  refine zz_bipush (v := 15) h dME_read_8 zz_lb_15 ?_
  refine zz_iand h dME_read_10 ?_
  refine zz_topi (fun v_3 => ?_)
  refine zc_ld_8 h dME_read_11 ?_
  refine zz_topi (fun v_4 => ?_)
  refine zz_istore_n h dME_read_12 (Nat.le_of_ble_eq_true rfl) ?_
  refine zz_aload_n h dME_read_13 rfl ?_
  refine zc_g_ME_fault h zi_ME zf_ME_44 dME_read_14 ?_
  refine zz_if_ne h 30 dME_read_17 rfl ?_ ?_
  · refine zz_iload_n h dME_read_20 rfl ?_
    refine zz_iconst (v := -1) h dME_read_21 zz_li_m1 ?_
    refine zz_icmp_ne h 30 dME_read_22 rfl ?_ ?_
    · refine zz_aload_n h dME_read_25 rfl ?_
      refine zz_iconst (v := 1) h dME_read_26 zz_li_1 ?_
      refine zc_p_ME_fault h zi_ME zf_ME_44 dME_read_27 (fun s_5 => ?_)
      exact zz_sub (ME_read_30_w hV h _ _ _) rfl
    · exact zz_sub (ME_read_30_w hV h _ _ _) rfl
  · exact zz_sub (ME_read_30_w hV h _ _ _) rfl
theorem ME_read_c {l : Launch} {D : va_G} {ad : Nat → Nat} {cA : Nat → ClassId} {tb : Nat} (hV : zz_ok (zc_V l D ad cA tb)) (x1 : Int32) (st : zz_S) : zz_C (zc_V l D ad cA tb) yME_read (Cond.code yME_read prog_4_method_19_code 3 (some .int) :: zt_T) { frames := 0, cells := 0, slots := 0, locals := 0 } zz_ji [.ref (ad 1), .int x1] st (ME_read_f x1 st) := zz_met hV (by decide +kernel) rfl (Nat.le_of_ble_eq_true rfl) rfl (fun E h => ME_read_w hV h x1 st)
def FR_meant_33 (st : zz_S) : Option (Int32 × zz_S) := (zz_bd (ME_fail_f (4 : Int32) st) fun _ s_1 => (some ((0 : Int32), s_1)))
def FR_meant_21 (y0 : Int32) (st : zz_S) : Option (Int32 × zz_S) := (if y0 = 0 then (FR_meant_33 st) else (zz_bd (FR_isElsewhere_f y0 st) fun r_3 s_2 => (if r_3 = 0 then (some (y0, s_2)) else (FR_meant_33 s_2))))
def FR_meant_f (x1 : Int32) (st : zz_S) : Option (Int32 × zz_S) := (zz_bd (FR_isElsewhere_f x1 st) fun r_5 s_4 => (if r_5 = 0 then (FR_meant_21 x1 s_4) else (zz_bd (ME_read_f (x1 - (2 : Int32)) s_4) fun r_7 s_6 => (FR_meant_21 r_7 s_6))))
set_option maxRecDepth 100000 in
set_option maxHeartbeats 4000000 in
theorem FR_meant_33_w {l : Launch} {D : va_G} {ad : Nat → Nat} {cA : Nat → ClassId} {tb : Nat} {E : zz_E} (hV : zz_ok (zc_V l D ad cA tb)) (h : zz_X (zc_V l D ad cA tb) E "FrameProcessor$Frames" prog_2_method_6_code 3 zt_T 1 22 (some .int)) (st : zz_S) : zz_Z (zc_V l D ad cA tb) E 3 0 0 (zz_q (zc_V l D ad cA tb) E zz_ji) (FR_meant_33  st) 33 [(0, .ref (ad 4))] [] st := by
  unfold FR_meant_33
  refine zz_aload_n h dFR_meant_33 rfl ?_
  refine zc_g_FR_memory h zi_FR zf_FR_9 dFR_meant_34 ?_
  refine zz_iconst (v := 4) h dFR_meant_37 zz_li_4 ?_
  refine zz_callV1v h 1 rfl rfl (ME_fail_c hV _ _) ME_fail_k zm_FR_21 rfl rfl ⟨Nat.le_of_ble_eq_true rfl, Nat.le_of_ble_eq_true rfl⟩ (Nat.le_of_ble_eq_true rfl) dFR_meant_38 (fun _ s_1 => ?_)
  refine zz_iconst (v := 0) h dFR_meant_41 zz_li_0 ?_
  exact zz_iret h dFR_meant_42
set_option maxRecDepth 100000 in
set_option maxHeartbeats 4000000 in
theorem FR_meant_21_w {l : Launch} {D : va_G} {ad : Nat → Nat} {cA : Nat → ClassId} {tb : Nat} {E : zz_E} (hV : zz_ok (zc_V l D ad cA tb)) (h : zz_X (zc_V l D ad cA tb) E "FrameProcessor$Frames" prog_2_method_6_code 3 zt_T 1 22 (some .int)) (y0 : Int32) (st : zz_S) : zz_Z (zc_V l D ad cA tb) E 3 0 0 (zz_q (zc_V l D ad cA tb) E zz_ji) (FR_meant_21 y0 st) 21 [(0, .ref (ad 4))] [.int y0] st := by
  unfold FR_meant_21
  refine zz_istore_n h dFR_meant_21 (Nat.le_of_ble_eq_true rfl) ?_
  refine zz_iload_n h dFR_meant_22 rfl ?_
  refine zz_if_eq h 33 dFR_meant_23 rfl ?_ ?_
  · exact zz_sub (FR_meant_33_w hV h  _) rfl
  · refine zz_iload_n h dFR_meant_26 rfl ?_
    refine zz_callS1i h (FR_isElsewhere_c hV _ _) FR_isElsewhere_k zm_FR_29 rfl rfl ⟨Nat.le_of_ble_eq_true rfl, Nat.le_of_ble_eq_true rfl⟩ (Nat.le_of_ble_eq_true rfl) dFR_meant_27 (fun r_3 s_2 => ?_)
    refine zz_if_eq h 43 dFR_meant_30 rfl ?_ ?_
    · refine zz_iload_n h dFR_meant_43 rfl ?_
      exact zz_iret h dFR_meant_44
    · exact zz_sub (FR_meant_33_w hV h  _) rfl
set_option maxRecDepth 100000 in
set_option maxHeartbeats 4000000 in
theorem FR_meant_w {l : Launch} {D : va_G} {ad : Nat → Nat} {cA : Nat → ClassId} {tb : Nat} {E : zz_E} (hV : zz_ok (zc_V l D ad cA tb)) (h : zz_X (zc_V l D ad cA tb) E "FrameProcessor$Frames" prog_2_method_6_code 3 zt_T 1 22 (some .int)) (x1 : Int32) (st : zz_S) : zz_Z (zc_V l D ad cA tb) E 3 0 0 (zz_q (zc_V l D ad cA tb) E zz_ji) (FR_meant_f x1 st) 0 [(0, .ref (ad 4)), (1, .int x1)] [] st := by
  unfold FR_meant_f
  refine zz_iload_n h dFR_meant_0 rfl ?_
  refine zz_callS1i h (FR_isElsewhere_c hV _ _) FR_isElsewhere_k zm_FR_29 rfl rfl ⟨Nat.le_of_ble_eq_true rfl, Nat.le_of_ble_eq_true rfl⟩ (Nat.le_of_ble_eq_true rfl) dFR_meant_1 (fun r_5 s_4 => ?_)
  refine zz_if_eq h 20 dFR_meant_4 rfl ?_ ?_
  · refine zz_iload_n h dFR_meant_20 rfl ?_
    exact zz_sub (FR_meant_21_w hV h _ _) rfl
  · refine zz_aload_n h dFR_meant_7 rfl ?_
    refine zc_g_FR_memory h zi_FR zf_FR_9 dFR_meant_8 ?_
    refine zz_iload_n h dFR_meant_11 rfl ?_
    refine zz_iconst (v := 2) h dFR_meant_12 zz_li_2 ?_
    refine zz_isub h dFR_meant_13 ?_
    refine zz_callV1i h 1 rfl rfl (ME_read_c hV _ _) ME_read_k zm_FR_15 rfl rfl ⟨Nat.le_of_ble_eq_true rfl, Nat.le_of_ble_eq_true rfl⟩ (Nat.le_of_ble_eq_true rfl) dFR_meant_14 (fun r_7 s_6 => ?_)
    refine zz_goto h 21 dFR_meant_17 rfl ?_
    exact zz_sub (FR_meant_21_w hV h _ _) rfl
theorem FR_meant_c {l : Launch} {D : va_G} {ad : Nat → Nat} {cA : Nat → ClassId} {tb : Nat} (hV : zz_ok (zc_V l D ad cA tb)) (x1 : Int32) (st : zz_S) : zz_C (zc_V l D ad cA tb) yFR_meant (Cond.code yFR_meant prog_2_method_6_code 3 (some .int) :: zt_T) { frames := 1, cells := 0, slots := 0, locals := 22 } zz_ji [.ref (ad 4), .int x1] st (FR_meant_f x1 st) := zz_met hV (by decide +kernel) rfl (Nat.le_of_ble_eq_true rfl) rfl (fun E h => FR_meant_w hV h x1 st)
