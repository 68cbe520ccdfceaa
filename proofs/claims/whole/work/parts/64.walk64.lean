def MO_undo_0b (k0 : zz_S → Option (Unit × zz_S)) (st : zz_S) : Option (Unit × zz_S) := (if (zz_sg st 1) ≤ 0 then (some ((), st)) else (zz_nm (zz_sp st 1 ((zz_sg st 1) - (1 : Int32))) fun s_1 => (zz_nm (zz_sg s_1 1) fun v_2 => (zz_gd (zz_in v_2 40) (zz_nm (zz_sg s_1 1) fun v_3 => (zz_gd (zz_in v_3 40) (zz_nm (zz_ag s_1 14 v_2.toNatClampNeg) fun v_4 => (zz_gd (zz_in v_4 3072) (zz_nm (zz_ap s_1 3 v_4.toNatClampNeg (zz_ag s_1 15 v_3.toNatClampNeg)) fun s_5 => (k0 s_5))))))))))
def MO_undo_0 : Nat → zz_S → Option (Unit × zz_S)
  | 0 => fun  _ => none
  | n + 1 => MO_undo_0b (MO_undo_0 n)
def MO_undo_f (st : zz_S) : Option (Unit × zz_S) := (MO_undo_0 42 st)
set_option maxRecDepth 100000 in
set_option maxHeartbeats 4000000 in
theorem MO_undo_0b_w {l : Launch} {D : va_G} {ad : Nat → Nat} {cA : Nat → ClassId} {tb : Nat} {E : zz_E} (hV : zz_ok (zm_V l D ad cA tb)) (h : zz_X (zm_V l D ad cA tb) E "FrameProcessorModel" prog_10_method_8_code 1 zt_T 0 0 none) {k0 : zz_S → Option (Unit × zz_S)} (hk0 : ∀ (st : zz_S), zz_Z (zm_V l D ad cA tb) E 1 0 0 (zz_q (zm_V l D ad cA tb) E zz_jv) (k0  st) 0 [(0, .ref (ad 0))] [] st) (st : zz_S) : zz_Z (zm_V l D ad cA tb) E 1 0 0 (zz_q (zm_V l D ad cA tb) E zz_jv) (MO_undo_0b k0  st) 0 [(0, .ref (ad 0))] [] st := by
  unfold MO_undo_0b
  refine zz_aload_n h dMO_undo_0 rfl ?_
  refine zm_g_MO_written h zi_MO zf_MO_79 dMO_undo_1 ?_
  refine zz_if_le h 43 dMO_undo_4 rfl ?_ ?_
  · exact zz_vret h dMO_undo_43
  · refine zz_aload_n h dMO_undo_7 rfl ?_
    refine zz_dup h dMO_undo_8 rfl ?_
    refine zm_g_MO_written h zi_MO zf_MO_79 dMO_undo_9 ?_
    refine zz_iconst (v := 1) h dMO_undo_12 zz_li_1 ?_
    refine zz_isub h dMO_undo_13 ?_
    refine zm_p_MO_written h zi_MO zf_MO_79 dMO_undo_14 (fun s_1 => ?_)
    refine zz_aload_n h dMO_undo_17 rfl ?_
    refine zm_g_MO_words h zi_MO zf_MO_16 dMO_undo_18 ?_
    refine zz_aload_n h dMO_undo_21 rfl ?_
    refine zm_g_MO_place h zi_MO zf_MO_51 dMO_undo_22 ?_
    refine zz_aload_n h dMO_undo_25 rfl ?_
    refine zm_g_MO_written h zi_MO zf_MO_79 dMO_undo_26 ?_
    refine zz_topi (fun v_2 => ?_)
    refine zm_ld_14 h dMO_undo_29 ?_
    refine zz_aload_n h dMO_undo_30 rfl ?_
    refine zm_g_MO_before h zi_MO zf_MO_54 dMO_undo_31 ?_
    refine zz_aload_n h dMO_undo_34 rfl ?_
    refine zm_g_MO_written h zi_MO zf_MO_79 dMO_undo_35 ?_
    refine zz_topi (fun v_3 => ?_)
    refine zm_ld_15 h dMO_undo_38 ?_
    refine zz_top2 (fun v_4 => ?_)
    refine zm_st_3 h dMO_undo_39 (fun s_5 => ?_)
    refine zz_goto h 0 dMO_undo_40 rfl ?_
    exact zz_sub (hk0  _) rfl
theorem MO_undo_0_w {l : Launch} {D : va_G} {ad : Nat → Nat} {cA : Nat → ClassId} {tb : Nat} {E : zz_E} (hV : zz_ok (zm_V l D ad cA tb)) (h : zz_X (zm_V l D ad cA tb) E "FrameProcessorModel" prog_10_method_8_code 1 zt_T 0 0 none) : ∀ (n : Nat) (st : zz_S), zz_Z (zm_V l D ad cA tb) E 1 0 0 (zz_q (zm_V l D ad cA tb) E zz_jv) (MO_undo_0 n  st) 0 [(0, .ref (ad 0))] [] st
  | 0, _ => zz_none
  | n + 1, st => MO_undo_0b_w hV h (MO_undo_0_w hV h n)  st
set_option maxRecDepth 100000 in
set_option maxHeartbeats 4000000 in
theorem MO_undo_w {l : Launch} {D : va_G} {ad : Nat → Nat} {cA : Nat → ClassId} {tb : Nat} {E : zz_E} (hV : zz_ok (zm_V l D ad cA tb)) (h : zz_X (zm_V l D ad cA tb) E "FrameProcessorModel" prog_10_method_8_code 1 zt_T 0 0 none) (st : zz_S) : zz_Z (zm_V l D ad cA tb) E 1 0 0 (zz_q (zm_V l D ad cA tb) E zz_jv) (MO_undo_f  st) 0 [(0, .ref (ad 0))] [] st := by
  unfold MO_undo_f
  exact zz_sub (MO_undo_0_w hV h _  _) rfl
theorem MO_undo_c {l : Launch} {D : va_G} {ad : Nat → Nat} {cA : Nat → ClassId} {tb : Nat} (hV : zz_ok (zm_V l D ad cA tb)) (st : zz_S) : zz_C (zm_V l D ad cA tb) yMO_undo (Cond.code yMO_undo prog_10_method_8_code 1 none :: zt_T) { frames := 0, cells := 0, slots := 0, locals := 0 } zz_jv [.ref (ad 0)] st (MO_undo_f  st) := zz_met hV (by decide +kernel) rfl (Nat.le_of_ble_eq_true rfl) rfl (fun E h => MO_undo_w hV h  st)
def MO_become_f (x1 : Int32) (x2 : Int32) (st : zz_S) : Option (Unit × zz_S) := (zz_gd (zz_in x1 6) (zz_nm (zz_ap st 5 x1.toNatClampNeg x2) fun s_1 => (zz_gd (zz_in x1 6) (zz_nm (zz_lp s_1 1 x1.toNatClampNeg (zz_lg s_1 0 0)) fun s_2 => (zz_nm (zz_lp s_2 0 0 ((zz_lg s_2 0 0) + (1 : Int64))) fun s_3 => (some ((), s_3)))))))
set_option maxRecDepth 100000 in
set_option maxHeartbeats 4000000 in
theorem MO_become_w {l : Launch} {D : va_G} {ad : Nat → Nat} {cA : Nat → ClassId} {tb : Nat} {E : zz_E} (hV : zz_ok (zm_V l D ad cA tb)) (h : zz_X (zm_V l D ad cA tb) E "FrameProcessorModel" prog_10_method_21_code 3 zt_T 0 0 none) (x1 : Int32) (x2 : Int32) (st : zz_S) : zz_Z (zm_V l D ad cA tb) E 3 0 0 (zz_q (zm_V l D ad cA tb) E zz_jv) (MO_become_f x1 x2 st) 0 [(0, .ref (ad 0)), (1, .int x1), (2, .int x2)] [] st := by
  unfold MO_become_f
  refine zz_aload_n h dMO_become_0 rfl ?_
  refine zm_g_MO_state h zi_MO zf_MO_23 dMO_become_1 ?_
  refine zz_iload_n h dMO_become_4 rfl ?_
  refine zz_iload_n h dMO_become_5 rfl ?_
  refine zm_st_5 h dMO_become_6 (fun s_1 => ?_)
  refine zz_aload_n h dMO_become_7 rfl ?_
  refine zm_g_MO_since h zi_MO zf_MO_47 dMO_become_8 ?_
  refine zz_iload_n h dMO_become_11 rfl ?_
  refine zz_aload_n h dMO_become_12 rfl ?_
  refine zm_g_MO_time h zi_MO zf_MO_122 dMO_become_13 ?_
  refine zm_st_13 h dMO_become_16 (fun s_2 => ?_)
  refine zz_aload_n h dMO_become_17 rfl ?_
  refine zz_dup h dMO_become_18 rfl ?_
  refine zm_g_MO_time h zi_MO zf_MO_122 dMO_become_19 ?_
  refine zz_lconst (v := 1) h dMO_become_22 rfl ?_
  refine zz_ladd h dMO_become_23 ?_
  refine zm_p_MO_time h zi_MO zf_MO_122 dMO_become_24 (fun s_3 => ?_)
  exact zz_vret h dMO_become_27
theorem MO_become_c {l : Launch} {D : va_G} {ad : Nat → Nat} {cA : Nat → ClassId} {tb : Nat} (hV : zz_ok (zm_V l D ad cA tb)) (x1 : Int32) (x2 : Int32) (st : zz_S) : zz_C (zm_V l D ad cA tb) yMO_become (Cond.code yMO_become prog_10_method_21_code 3 none :: zt_T) { frames := 0, cells := 0, slots := 0, locals := 0 } zz_jv [.ref (ad 0), .int x1, .int x2] st (MO_become_f x1 x2 st) := zz_met hV (by decide +kernel) rfl (Nat.le_of_ble_eq_true rfl) rfl (fun E h => MO_become_w hV h x1 x2 st)
def MO_ready_f (x1 : Int32) (st : zz_S) : Option (Unit × zz_S) := (zz_bd (MO_become_f x1 (1 : Int32) st) fun _ s_1 => (zz_gd (zz_in x1 6) (zz_nm (zz_ap s_1 11 x1.toNatClampNeg (0 : Int32)) fun s_2 => (zz_gd (zz_in x1 6) (zz_nm (zz_ap s_2 12 x1.toNatClampNeg (0 : Int32)) fun s_3 => (some ((), s_3)))))))
set_option maxRecDepth 100000 in
set_option maxHeartbeats 4000000 in
theorem MO_ready_w {l : Launch} {D : va_G} {ad : Nat → Nat} {cA : Nat → ClassId} {tb : Nat} {E : zz_E} (hV : zz_ok (zm_V l D ad cA tb)) (h : zz_X (zm_V l D ad cA tb) E "FrameProcessorModel" prog_10_method_24_code 2 zt_T 1 22 none) (x1 : Int32) (st : zz_S) : zz_Z (zm_V l D ad cA tb) E 2 0 0 (zz_q (zm_V l D ad cA tb) E zz_jv) (MO_ready_f x1 st) 0 [(0, .ref (ad 0)), (1, .int x1)] [] st := by
  unfold MO_ready_f
  refine zz_aload_n h dMO_ready_0 rfl ?_
  refine zz_iload_n h dMO_ready_1 rfl ?_
  refine zz_iconst (v := 1) h dMO_ready_2 zz_li_1 ?_
  refine zz_callV2v h 0 rfl rfl (MO_become_c hV _ _ _) MO_become_k zm_MO_132 rfl rfl ⟨Nat.le_of_ble_eq_true rfl, Nat.le_of_ble_eq_true rfl⟩ (Nat.le_of_ble_eq_true rfl) dMO_ready_3 (fun _ s_1 => ?_)
  refine zz_aload_n h dMO_ready_6 rfl ?_
  refine zm_g_MO_timeout h zi_MO zf_MO_41 dMO_ready_7 ?_
  refine zz_iload_n h dMO_ready_10 rfl ?_
  refine zz_iconst (v := 0) h dMO_ready_11 zz_li_0 ?_
  refine zm_st_11 h dMO_ready_12 (fun s_2 => ?_)
  refine zz_aload_n h dMO_ready_13 rfl ?_
  refine zm_g_MO_faults h zi_MO zf_MO_44 dMO_ready_14 ?_
  refine zz_iload_n h dMO_ready_17 rfl ?_
  refine zz_iconst (v := 0) h dMO_ready_18 zz_li_0 ?_
  refine zm_st_12 h dMO_ready_19 (fun s_3 => ?_)
  exact zz_vret h dMO_ready_20
theorem MO_ready_c {l : Launch} {D : va_G} {ad : Nat → Nat} {cA : Nat → ClassId} {tb : Nat} (hV : zz_ok (zm_V l D ad cA tb)) (x1 : Int32) (st : zz_S) : zz_C (zm_V l D ad cA tb) yMO_ready (Cond.code yMO_ready prog_10_method_24_code 2 none :: zt_T) { frames := 1, cells := 0, slots := 0, locals := 22 } zz_jv [.ref (ad 0), .int x1] st (MO_ready_f x1 st) := zz_met hV (by decide +kernel) rfl (Nat.le_of_ble_eq_true rfl) rfl (fun E h => MO_ready_w hV h x1 st)
def MO_wakeAll_2b (k2 : Int32 → zz_S → Option (Unit × zz_S)) (x1 : Int32) (st : zz_S) : Option (Unit × zz_S) := (if (zz_sg st 9) ≤ x1 then (zz_nm (zz_sp st 9 (0 : Int32)) fun s_1 => (some ((), s_1))) else (zz_gd (zz_in x1 6) (zz_bd (MO_ready_f (zz_ag st 17 x1.toNatClampNeg) st) fun _ s_2 => (k2 (x1 + (1 : Int32)) s_2))))
def MO_wakeAll_2 : Nat → Int32 → zz_S → Option (Unit × zz_S)
  | 0 => fun _ _ => none
  | n + 1 => MO_wakeAll_2b (MO_wakeAll_2 n)
def MO_wakeAll_f (st : zz_S) : Option (Unit × zz_S) := (MO_wakeAll_2 10 (0 : Int32) st)
set_option maxRecDepth 100000 in
set_option maxHeartbeats 4000000 in
theorem MO_wakeAll_2b_w {l : Launch} {D : va_G} {ad : Nat → Nat} {cA : Nat → ClassId} {tb : Nat} {E : zz_E} (hV : zz_ok (zm_V l D ad cA tb)) (h : zz_X (zm_V l D ad cA tb) E "FrameProcessorModel" prog_10_method_25_code 2 zt_T 2 43 none) {k2 : Int32 → zz_S → Option (Unit × zz_S)} (hk2 : ∀ (x1 : Int32) (st : zz_S), zz_Z (zm_V l D ad cA tb) E 2 0 0 (zz_q (zm_V l D ad cA tb) E zz_jv) (k2 x1 st) 2 [(0, .ref (ad 0)), (1, .int x1)] [] st) (x1 : Int32) (st : zz_S) : zz_Z (zm_V l D ad cA tb) E 2 0 0 (zz_q (zm_V l D ad cA tb) E zz_jv) (MO_wakeAll_2b k2 x1 st) 2 [(0, .ref (ad 0)), (1, .int x1)] [] st := by
  unfold MO_wakeAll_2b
  refine zz_iload_n h dMO_wakeAll_2 rfl ?_
  refine zz_aload_n h dMO_wakeAll_3 rfl ?_
  refine zm_g_MO_waking h zi_MO zf_MO_126 dMO_wakeAll_4 ?_
  refine zz_icmp_ge h 26 dMO_wakeAll_7 rfl ?_ ?_
  · refine zz_aload_n h dMO_wakeAll_26 rfl ?_
    refine zz_iconst (v := 0) h dMO_wakeAll_27 zz_li_0 ?_
    refine zm_p_MO_waking h zi_MO zf_MO_126 dMO_wakeAll_28 (fun s_1 => ?_)
    exact zz_vret h dMO_wakeAll_31
  · refine zz_aload_n h dMO_wakeAll_10 rfl ?_
    refine zz_aload_n h dMO_wakeAll_11 rfl ?_
    refine zm_g_MO_woken h zi_MO zf_MO_60 dMO_wakeAll_12 ?_
    refine zz_iload_n h dMO_wakeAll_15 rfl ?_
    refine zm_ld_17 h dMO_wakeAll_16 ?_
    refine zz_callV1v h 0 rfl rfl (MO_ready_c hV _ _) MO_ready_k zm_MO_135 rfl rfl ⟨Nat.le_of_ble_eq_true rfl, Nat.le_of_ble_eq_true rfl⟩ (Nat.le_of_ble_eq_true rfl) dMO_wakeAll_17 (fun _ s_2 => ?_)
    refine zz_iinc h (1 : Int32) dMO_wakeAll_20 zz_li_1 rfl (Nat.le_of_ble_eq_true rfl) ?_
    refine zz_goto h 2 dMO_wakeAll_23 rfl ?_
    exact zz_sub (hk2 _ _) rfl
theorem MO_wakeAll_2_w {l : Launch} {D : va_G} {ad : Nat → Nat} {cA : Nat → ClassId} {tb : Nat} {E : zz_E} (hV : zz_ok (zm_V l D ad cA tb)) (h : zz_X (zm_V l D ad cA tb) E "FrameProcessorModel" prog_10_method_25_code 2 zt_T 2 43 none) : ∀ (n : Nat) (x1 : Int32) (st : zz_S), zz_Z (zm_V l D ad cA tb) E 2 0 0 (zz_q (zm_V l D ad cA tb) E zz_jv) (MO_wakeAll_2 n x1 st) 2 [(0, .ref (ad 0)), (1, .int x1)] [] st
  | 0, _, _ => zz_none
  | n + 1, x1, st => MO_wakeAll_2b_w hV h (MO_wakeAll_2_w hV h n) x1 st
set_option maxRecDepth 100000 in
set_option maxHeartbeats 4000000 in
theorem MO_wakeAll_w {l : Launch} {D : va_G} {ad : Nat → Nat} {cA : Nat → ClassId} {tb : Nat} {E : zz_E} (hV : zz_ok (zm_V l D ad cA tb)) (h : zz_X (zm_V l D ad cA tb) E "FrameProcessorModel" prog_10_method_25_code 2 zt_T 2 43 none) (st : zz_S) : zz_Z (zm_V l D ad cA tb) E 2 0 0 (zz_q (zm_V l D ad cA tb) E zz_jv) (MO_wakeAll_f  st) 0 [(0, .ref (ad 0))] [] st := by
  unfold MO_wakeAll_f
  refine zz_iconst (v := 0) h dMO_wakeAll_0 zz_li_0 ?_
  refine zz_istore_n h dMO_wakeAll_1 (Nat.le_of_ble_eq_true rfl) ?_
  exact zz_sub (MO_wakeAll_2_w hV h _ _ _) rfl
theorem MO_wakeAll_c {l : Launch} {D : va_G} {ad : Nat → Nat} {cA : Nat → ClassId} {tb : Nat} (hV : zz_ok (zm_V l D ad cA tb)) (st : zz_S) : zz_C (zm_V l D ad cA tb) yMO_wakeAll (Cond.code yMO_wakeAll prog_10_method_25_code 2 none :: zt_T) { frames := 2, cells := 0, slots := 0, locals := 43 } zz_jv [.ref (ad 0)] st (MO_wakeAll_f  st) := zz_met hV (by decide +kernel) rfl (Nat.le_of_ble_eq_true rfl) rfl (fun E h => MO_wakeAll_w hV h  st)
def MO_begin_f (x1 : Int32) (x2 : Int32) (x3 : Int32) (st : zz_S) : Option (Unit × zz_S) := (zz_bd (MO_ready_f x1 st) fun _ s_1 => (zz_gd (zz_in x1 6) (zz_nm (zz_ap s_1 7 x1.toNatClampNeg x2) fun s_2 => (zz_gd (zz_in x1 6) (zz_nm (zz_ap s_2 6 x1.toNatClampNeg (x3 &&& (7 : Int32))) fun s_3 => (zz_gd (zz_in x1 6) (zz_nm (zz_ap s_3 8 x1.toNatClampNeg (0 : Int32)) fun s_4 => (some ((), s_4)))))))))
set_option maxRecDepth 100000 in
set_option maxHeartbeats 4000000 in
theorem MO_begin_w {l : Launch} {D : va_G} {ad : Nat → Nat} {cA : Nat → ClassId} {tb : Nat} {E : zz_E} (hV : zz_ok (zm_V l D ad cA tb)) (h : zz_X (zm_V l D ad cA tb) E "FrameProcessorModel" prog_10_method_27_code 4 zt_T 2 43 none) (x1 : Int32) (x2 : Int32) (x3 : Int32) (st : zz_S) : zz_Z (zm_V l D ad cA tb) E 4 0 0 (zz_q (zm_V l D ad cA tb) E zz_jv) (MO_begin_f x1 x2 x3 st) 0 [(0, .ref (ad 0)), (1, .int x1), (2, .int x2), (3, .int x3)] [] st := by
  unfold MO_begin_f
  refine zz_aload_n h dMO_begin_0 rfl ?_
  refine zz_iload_n h dMO_begin_1 rfl ?_
  refine zz_callV1v h 0 rfl rfl (MO_ready_c hV _ _) MO_ready_k zm_MO_135 rfl rfl ⟨Nat.le_of_ble_eq_true rfl, Nat.le_of_ble_eq_true rfl⟩ (Nat.le_of_ble_eq_true rfl) dMO_begin_2 (fun _ s_1 => ?_)
  refine zz_aload_n h dMO_begin_5 rfl ?_
  refine zm_g_MO_frame h zi_MO zf_MO_29 dMO_begin_6 ?_
  refine zz_iload_n h dMO_begin_9 rfl ?_
  refine zz_iload_n h dMO_begin_10 rfl ?_
  refine zm_st_7 h dMO_begin_11 (fun s_2 => ?_)
  refine zz_aload_n h dMO_begin_12 rfl ?_
  refine zm_g_MO_priority h zi_MO zf_MO_26 dMO_begin_13 ?_
  refine zz_iload_n h dMO_begin_16 rfl ?_
  refine zz_iload_n h dMO_begin_17 rfl ?_
  refine zz_bipush (v := 7) h dMO_begin_18 zz_lb_7 ?_
  refine zz_iand h dMO_begin_20 ?_
  refine zm_st_6 h dMO_begin_21 (fun s_3 => ?_)
  refine zz_aload_n h dMO_begin_22 rfl ?_
  refine zm_g_MO_size h zi_MO zf_MO_32 dMO_begin_23 ?_
  refine zz_iload_n h dMO_begin_26 rfl ?_
  refine zz_iconst (v := 0) h dMO_begin_27 zz_li_0 ?_
  refine zm_st_8 h dMO_begin_28 (fun s_4 => ?_)
  exact zz_vret h dMO_begin_29
theorem MO_begin_c {l : Launch} {D : va_G} {ad : Nat → Nat} {cA : Nat → ClassId} {tb : Nat} (hV : zz_ok (zm_V l D ad cA tb)) (x1 : Int32) (x2 : Int32) (x3 : Int32) (st : zz_S) : zz_C (zm_V l D ad cA tb) yMO_begin (Cond.code yMO_begin prog_10_method_27_code 4 none :: zt_T) { frames := 2, cells := 0, slots := 0, locals := 43 } zz_jv [.ref (ad 0), .int x1, .int x2, .int x3] st (MO_begin_f x1 x2 x3 st) := zz_met hV (by decide +kernel) rfl (Nat.le_of_ble_eq_true rfl) rfl (fun E h => MO_begin_w hV h x1 x2 x3 st)
def MO_instruction_378 (st : zz_S) : Option (Unit × zz_S) := (zz_bd (MO_wakeAll_f st) fun _ s_1 => (if (zz_sg s_1 11) < 0 then (some ((), s_1)) else (zz_bd (MO_begin_f (zz_sg s_1 11) (zz_sg s_1 12) (zz_sg s_1 13) s_1) fun _ s_2 => (some ((), s_2)))))
def MO_instruction_363 (st : zz_S) : Option (Unit × zz_S) := (if (zz_sg st 10) = 0 then (MO_instruction_378 st) else (zz_bd (MO_ready_f (zz_sg st 3) st) fun _ s_3 => (MO_instruction_378 s_3)))
def MO_instruction_306b (k306 : Int32 → zz_S → Option (Unit × zz_S)) (x5 : Int32) (st : zz_S) : Option (Unit × zz_S) := (if (8 : Int32) ≤ x5 then (zz_nm (zz_sg st 3) fun v_4 => (zz_gd (zz_in v_4 6) (if (zz_ag st 5 v_4.toNatClampNeg) = (3 : Int32) then (zz_bd (MO_become_f (zz_sg st 3) (3 : Int32) st) fun _ s_5 => (MO_instruction_363 s_5)) else (MO_instruction_363 st)))) else (zz_gd (zz_in x5 48) (zz_nm (((8 : Int32) * (zz_sg st 3)) + x5) fun v_6 => (zz_gd (zz_in v_6 48) (zz_nm (zz_ap st 9 v_6.toNatClampNeg (zz_ag st 16 x5.toNatClampNeg)) fun s_7 => (k306 (x5 + (1 : Int32)) s_7))))))
def MO_instruction_306 : Nat → Int32 → zz_S → Option (Unit × zz_S)
  | 0 => fun _ _ => none
  | n + 1 => MO_instruction_306b (MO_instruction_306 n)
def MO_instruction_212 (x1 : Int32) (st : zz_S) : Option (Unit × zz_S) := (if (zz_sg st 2) ≤ 0 then (zz_nm (zz_sg st 3) fun v_8 => (zz_gd (zz_in v_8 6) (if (zz_ag st 5 v_8.toNatClampNeg) = (2 : Int32) then (zz_bd (MO_become_f (zz_sg st 3) (2 : Int32) st) fun _ s_9 => (some ((), s_9))) else (zz_nm (zz_sg st 3) fun v_10 => (zz_gd (zz_in v_10 6) (zz_nm (zz_ap st 8 v_10.toNatClampNeg (zz_sg st 4)) fun s_11 => (MO_instruction_306 10 (0 : Int32) s_11))))))) else (zz_bd (MO_undo_f st) fun _ s_12 => (zz_nm (zz_sg s_12 3) fun v_13 => (zz_gd (zz_in v_13 6) (zz_nm (zz_ap s_12 5 v_13.toNatClampNeg (4 : Int32)) fun s_14 => (zz_nm (zz_sg s_14 3) fun v_15 => (zz_gd (zz_in v_15 6) (zz_nm (zz_ap s_14 7 v_15.toNatClampNeg x1) fun s_16 => (zz_nm (zz_sg s_16 3) fun v_17 => (zz_gd (zz_in v_17 6) (zz_nm (zz_ap s_16 12 v_17.toNatClampNeg (zz_sg s_16 2)) fun s_18 => (zz_nm (zz_sg s_18 3) fun v_19 => (zz_gd (zz_in v_19 6) (zz_nm (zz_ap s_18 11 v_19.toNatClampNeg (0 : Int32)) fun s_20 => (some ((), s_20))))))))))))))))
def MO_instruction_189 (x1 : Int32) (x4 : Int32) (st : zz_S) : Option (Unit × zz_S) := (if (zz_sg st 2) = 0 then (if x4 = 0 then (MO_instruction_212 x1 st) else (zz_bd (MO_write_f (x1 + (2 : Int32)) (zz_sg st 5) st) fun _ s_21 => (MO_instruction_212 x1 s_21))) else (MO_instruction_212 x1 st))
def MO_instruction_165 (x1 : Int32) (y0 : Int32) (st : zz_S) : Option (Unit × zz_S) := (if (zz_sg st 2) = 0 then (if (zz_sg st 4) ≤ (8 : Int32) then (MO_instruction_189 x1 y0 st) else (zz_bd (MO_wrong_f (6 : Int32) st) fun _ s_22 => (MO_instruction_189 x1 y0 s_22))) else (MO_instruction_189 x1 y0 st))
def MO_instruction_164 (x1 : Int32) (st : zz_S) : Option (Unit × zz_S) := (MO_instruction_165 x1 (0 : Int32) st)
def MO_instruction_50b (k50 : Int32 → Int32 → zz_S → Option (Unit × zz_S)) (x1 : Int32) (x2 : Int32) (st : zz_S) : Option (Unit × zz_S) := (if (8 : Int32) ≤ x2 then (zz_bd (MO_read_f (x1 + (1 : Int32)) st) fun r_24 s_23 => (zz_nm (zz_sp s_23 8 (r_24 &&& (15 : Int32))) fun s_25 => (zz_bd (MO_read_f ((32 : Int32) + (zz_sg s_25 8)) s_25) fun r_27 s_26 => (zz_nm (zz_sp s_26 7 r_27) fun s_28 => (zz_bd (MO_read_f (zz_sg s_28 7) s_28) fun r_30 s_29 => (zz_nm (zz_sp s_29 6 r_30) fun s_31 => (zz_bd (MO_read_f (x1 + (2 : Int32)) s_31) fun r_33 s_32 => (zz_nm (zz_sp s_32 5 r_33) fun s_34 => (zz_nm (zz_sg s_34 5) fun v_35 => (zz_bd (MO_nextByte_f s_34) fun r_37 s_36 => (if (zz_sg s_36 2) = 0 then (zz_bd (MO_act_f v_35 r_37 s_36) fun r_39 s_38 => (if r_39 = 0 then (MO_instruction_164 x1 s_38) else (MO_instruction_165 x1 (1 : Int32) s_38))) else (MO_instruction_164 x1 s_36)))))))))))) else (zz_nm (((8 : Int32) * (zz_sg st 3)) + x2) fun v_40 => (zz_gd (zz_in v_40 48) (zz_gd (zz_in x2 48) (zz_nm (zz_ap st 16 x2.toNatClampNeg (zz_ag st 9 v_40.toNatClampNeg)) fun s_41 => (k50 x1 (x2 + (1 : Int32)) s_41))))))
def MO_instruction_50 : Nat → Int32 → Int32 → zz_S → Option (Unit × zz_S)
  | 0 => fun _ _ _ => none
  | n + 1 => MO_instruction_50b (MO_instruction_50 n)
def MO_instruction_f (st : zz_S) : Option (Unit × zz_S) := (zz_nm (zz_sp st 2 (0 : Int32)) fun s_42 => (zz_nm (zz_sp s_42 1 (0 : Int32)) fun s_43 => (zz_nm (zz_sp s_43 9 (0 : Int32)) fun s_44 => (zz_gd (zz_bo (0 : Int32)) (zz_nm (zz_sp s_44 10 (0 : Int32)) fun s_45 => (zz_nm (zz_sp s_45 11 (-1 : Int32)) fun s_46 => (zz_nm (zz_sg s_46 3) fun v_47 => (zz_gd (zz_in v_47 6) (zz_nm (zz_ag s_46 7 v_47.toNatClampNeg) fun v_48 => (zz_nm (zz_sg s_46 3) fun v_49 => (zz_gd (zz_in v_49 6) (zz_nm (zz_sp s_46 4 (zz_ag s_46 8 v_49.toNatClampNeg)) fun s_50 => (MO_instruction_50 10 v_48 (0 : Int32) s_50)))))))))))))
set_option maxRecDepth 100000 in
set_option maxHeartbeats 4000000 in
theorem MO_instruction_378_w {l : Launch} {D : va_G} {ad : Nat → Nat} {cA : Nat → ClassId} {tb : Nat} {E : zz_E} (hV : zz_ok (zm_V l D ad cA tb)) (h : zz_X (zm_V l D ad cA tb) E "FrameProcessorModel" prog_10_method_37_code 6 zt_T 8 195 none) (st : zz_S) : zz_Z (zm_V l D ad cA tb) E 6 0 0 (zz_q (zm_V l D ad cA tb) E zz_jv) (MO_instruction_378  st) 378 [(0, .ref (ad 0))] [] st := by
  unfold MO_instruction_378
  refine zz_aload_n h dMO_instruction_378 rfl ?_
  refine zz_callV0v h 0 rfl rfl (MO_wakeAll_c hV _) MO_wakeAll_k zm_MO_215 rfl rfl ⟨Nat.le_of_ble_eq_true rfl, Nat.le_of_ble_eq_true rfl⟩ (Nat.le_of_ble_eq_true rfl) dMO_instruction_379 (fun _ s_1 => ?_)
  refine zz_aload_n h dMO_instruction_382 rfl ?_
  refine zm_g_MO_newborn h zi_MO zf_MO_200 dMO_instruction_383 ?_
  refine zz_if_lt h 405 dMO_instruction_386 rfl ?_ ?_
  · exact zz_vret h dMO_instruction_405
  · refine zz_aload_n h dMO_instruction_389 rfl ?_
    refine zz_aload_n h dMO_instruction_390 rfl ?_
    refine zm_g_MO_newborn h zi_MO zf_MO_200 dMO_instruction_391 ?_
    refine zz_aload_n h dMO_instruction_394 rfl ?_
    refine zm_g_MO_newFrame h zi_MO zf_MO_203 dMO_instruction_395 ?_
    refine zz_aload_n h dMO_instruction_398 rfl ?_
    refine zm_g_MO_newPriority h zi_MO zf_MO_206 dMO_instruction_399 ?_
    refine zz_callV3v h 0 rfl rfl (MO_begin_c hV _ _ _ _) MO_begin_k zm_MO_218 rfl rfl ⟨Nat.le_of_ble_eq_true rfl, Nat.le_of_ble_eq_true rfl⟩ (Nat.le_of_ble_eq_true rfl) dMO_instruction_402 (fun _ s_2 => ?_)
    exact zz_vret h dMO_instruction_405
set_option maxRecDepth 100000 in
set_option maxHeartbeats 4000000 in
theorem MO_instruction_363_w {l : Launch} {D : va_G} {ad : Nat → Nat} {cA : Nat → ClassId} {tb : Nat} {E : zz_E} (hV : zz_ok (zm_V l D ad cA tb)) (h : zz_X (zm_V l D ad cA tb) E "FrameProcessorModel" prog_10_method_37_code 6 zt_T 8 195 none) (st : zz_S) : zz_Z (zm_V l D ad cA tb) E 6 0 0 (zz_q (zm_V l D ad cA tb) E zz_jv) (MO_instruction_363  st) 363 [(0, .ref (ad 0))] [] st := by
  unfold MO_instruction_363
  refine zz_aload_n h dMO_instruction_363 rfl ?_
  refine zm_g_MO_yields h zi_MO zf_MO_187 dMO_instruction_364 ?_
  refine zz_if_eq h 378 dMO_instruction_367 rfl ?_ ?_
  · exact zz_sub (MO_instruction_378_w hV h  _) rfl
  · refine zz_aload_n h dMO_instruction_370 rfl ?_
    refine zz_aload_n h dMO_instruction_371 rfl ?_
    refine zm_g_MO_me h zi_MO zf_MO_113 dMO_instruction_372 ?_
    refine zz_callV1v h 0 rfl rfl (MO_ready_c hV _ _) MO_ready_k zm_MO_135 rfl rfl ⟨Nat.le_of_ble_eq_true rfl, Nat.le_of_ble_eq_true rfl⟩ (Nat.le_of_ble_eq_true rfl) dMO_instruction_375 (fun _ s_3 => ?_)
    exact zz_sub (MO_instruction_378_w hV h  _) rfl
set_option maxRecDepth 100000 in
set_option maxHeartbeats 4000000 in
theorem MO_instruction_306b_w {l : Launch} {D : va_G} {ad : Nat → Nat} {cA : Nat → ClassId} {tb : Nat} {E : zz_E} (hV : zz_ok (zm_V l D ad cA tb)) (h : zz_X (zm_V l D ad cA tb) E "FrameProcessorModel" prog_10_method_37_code 6 zt_T 8 195 none) {k306 : Int32 → zz_S → Option (Unit × zz_S)} (hk306 : ∀ (x5 : Int32) (st : zz_S), zz_Z (zm_V l D ad cA tb) E 6 0 0 (zz_q (zm_V l D ad cA tb) E zz_jv) (k306 x5 st) 306 [(0, .ref (ad 0)), (5, .int x5)] [] st) (x5 : Int32) (st : zz_S) : zz_Z (zm_V l D ad cA tb) E 6 0 0 (zz_q (zm_V l D ad cA tb) E zz_jv) (MO_instruction_306b k306 x5 st) 306 [(0, .ref (ad 0)), (5, .int x5)] [] st := by
  unfold MO_instruction_306b
  refine zz_iload h dMO_instruction_306 rfl ?_
  refine zz_bipush (v := 8) h dMO_instruction_308 zz_lb_8 ?_
  refine zz_icmp_ge h 341 dMO_instruction_310 rfl ?_ ?_
  · refine zz_aload_n h dMO_instruction_341 rfl ?_
    refine zm_g_MO_state h zi_MO zf_MO_23 dMO_instruction_342 ?_
    refine zz_aload_n h dMO_instruction_345 rfl ?_
    refine zm_g_MO_me h zi_MO zf_MO_113 dMO_instruction_346 ?_
    refine zz_topi (fun v_4 => ?_)
    refine zm_ld_5 h dMO_instruction_349 ?_
    refine zz_iconst (v := 3) h dMO_instruction_350 zz_li_3 ?_
    refine zz_icmp_ne h 363 dMO_instruction_351 rfl ?_ ?_
    · refine zz_aload_n h dMO_instruction_354 rfl ?_
      refine zz_aload_n h dMO_instruction_355 rfl ?_
      refine zm_g_MO_me h zi_MO zf_MO_113 dMO_instruction_356 ?_
      refine zz_iconst (v := 3) h dMO_instruction_359 zz_li_3 ?_
      refine zz_callV2v h 0 rfl rfl (MO_become_c hV _ _ _) MO_become_k zm_MO_132 rfl rfl ⟨Nat.le_of_ble_eq_true rfl, Nat.le_of_ble_eq_true rfl⟩ (Nat.le_of_ble_eq_true rfl) dMO_instruction_360 (fun _ s_5 => ?_)
      exact zz_sub (MO_instruction_363_w hV h  _) rfl
    · exact zz_sub (MO_instruction_363_w hV h  _) rfl
  · refine zz_aload_n h dMO_instruction_313 rfl ?_
    refine zm_g_MO_stack h zi_MO zf_MO_35 dMO_instruction_314 ?_
    refine zz_bipush (v := 8) h dMO_instruction_317 zz_lb_8 ?_
    refine zz_aload_n h dMO_instruction_319 rfl ?_
    refine zm_g_MO_me h zi_MO zf_MO_113 dMO_instruction_320 ?_
    refine zz_imul h dMO_instruction_323 ?_
    refine zz_iload h dMO_instruction_324 rfl ?_
    refine zz_iadd h dMO_instruction_326 ?_
    refine zz_aload_n h dMO_instruction_327 rfl ?_
    refine zm_g_MO_mine h zi_MO zf_MO_57 dMO_instruction_328 ?_
    refine zz_iload h dMO_instruction_331 rfl ?_
    refine zm_ld_16 h dMO_instruction_333 ?_
    refine zz_top2 (fun v_6 => ?_)
    refine zm_st_9 h dMO_instruction_334 (fun s_7 => ?_)
    refine zz_iinc h (1 : Int32) dMO_instruction_335 zz_li_1 rfl (Nat.le_of_ble_eq_true rfl) ?_
    refine zz_goto h 306 dMO_instruction_338 rfl ?_
    exact zz_sub (hk306 _ _) rfl
theorem MO_instruction_306_w {l : Launch} {D : va_G} {ad : Nat → Nat} {cA : Nat → ClassId} {tb : Nat} {E : zz_E} (hV : zz_ok (zm_V l D ad cA tb)) (h : zz_X (zm_V l D ad cA tb) E "FrameProcessorModel" prog_10_method_37_code 6 zt_T 8 195 none) : ∀ (n : Nat) (x5 : Int32) (st : zz_S), zz_Z (zm_V l D ad cA tb) E 6 0 0 (zz_q (zm_V l D ad cA tb) E zz_jv) (MO_instruction_306 n x5 st) 306 [(0, .ref (ad 0)), (5, .int x5)] [] st
  | 0, _, _ => zz_none
  | n + 1, x5, st => MO_instruction_306b_w hV h (MO_instruction_306_w hV h n) x5 st
set_option maxRecDepth 100000 in
set_option maxHeartbeats 4000000 in
theorem MO_instruction_212_w {l : Launch} {D : va_G} {ad : Nat → Nat} {cA : Nat → ClassId} {tb : Nat} {E : zz_E} (hV : zz_ok (zm_V l D ad cA tb)) (h : zz_X (zm_V l D ad cA tb) E "FrameProcessorModel" prog_10_method_37_code 6 zt_T 8 195 none) (x1 : Int32) (st : zz_S) : zz_Z (zm_V l D ad cA tb) E 6 0 0 (zz_q (zm_V l D ad cA tb) E zz_jv) (MO_instruction_212 x1 st) 212 [(0, .ref (ad 0)), (1, .int x1)] [] st := by
  unfold MO_instruction_212
  refine zz_aload_n h dMO_instruction_212 rfl ?_
  refine zm_g_MO_fault h zi_MO zf_MO_68 dMO_instruction_213 ?_
  refine zz_if_le h 267 dMO_instruction_216 rfl ?_ ?_
  · refine zz_aload_n h dMO_instruction_267 rfl ?_
    refine zm_g_MO_state h zi_MO zf_MO_23 dMO_instruction_268 ?_
    refine zz_aload_n h dMO_instruction_271 rfl ?_
    refine zm_g_MO_me h zi_MO zf_MO_113 dMO_instruction_272 ?_
    refine zz_topi (fun v_8 => ?_)
    refine zm_ld_5 h dMO_instruction_275 ?_
    refine zz_iconst (v := 2) h dMO_instruction_276 zz_li_2 ?_
    refine zz_icmp_ne h 290 dMO_instruction_277 rfl ?_ ?_
    · refine zz_aload_n h dMO_instruction_280 rfl ?_
      refine zz_aload_n h dMO_instruction_281 rfl ?_
      refine zm_g_MO_me h zi_MO zf_MO_113 dMO_instruction_282 ?_
      refine zz_iconst (v := 2) h dMO_instruction_285 zz_li_2 ?_
      refine zz_callV2v h 0 rfl rfl (MO_become_c hV _ _ _) MO_become_k zm_MO_132 rfl rfl ⟨Nat.le_of_ble_eq_true rfl, Nat.le_of_ble_eq_true rfl⟩ (Nat.le_of_ble_eq_true rfl) dMO_instruction_286 (fun _ s_9 => ?_)
      exact zz_vret h dMO_instruction_289
    · refine zz_aload_n h dMO_instruction_290 rfl ?_
      refine zm_g_MO_size h zi_MO zf_MO_32 dMO_instruction_291 ?_
      refine zz_aload_n h dMO_instruction_294 rfl ?_
      refine zm_g_MO_me h zi_MO zf_MO_113 dMO_instruction_295 ?_
      refine zz_aload_n h dMO_instruction_298 rfl ?_
      refine zm_g_MO_top h zi_MO zf_MO_98 dMO_instruction_299 ?_
      refine zz_top2 (fun v_10 => ?_)
      refine zm_st_8 h dMO_instruction_302 (fun s_11 => ?_)
      refine zz_iconst (v := 0) h dMO_instruction_303 zz_li_0 ?_
      refine zz_istore h dMO_instruction_304 (Nat.le_of_ble_eq_true rfl) ?_
      exact zz_sub (MO_instruction_306_w hV h _ _ _) rfl
  · refine zz_aload_n h dMO_instruction_219 rfl ?_
    refine zz_callV0v h 0 rfl rfl (MO_undo_c hV _) MO_undo_k zm_MO_212 rfl rfl ⟨Nat.le_of_ble_eq_true rfl, Nat.le_of_ble_eq_true rfl⟩ (Nat.le_of_ble_eq_true rfl) dMO_instruction_220 (fun _ s_12 => ?_)
    refine zz_aload_n h dMO_instruction_223 rfl ?_
    refine zm_g_MO_state h zi_MO zf_MO_23 dMO_instruction_224 ?_
    refine zz_aload_n h dMO_instruction_227 rfl ?_
    refine zm_g_MO_me h zi_MO zf_MO_113 dMO_instruction_228 ?_
    refine zz_iconst (v := 4) h dMO_instruction_231 zz_li_4 ?_
    refine zz_top2 (fun v_13 => ?_)
    refine zm_st_5 h dMO_instruction_232 (fun s_14 => ?_)
    refine zz_aload_n h dMO_instruction_233 rfl ?_
    refine zm_g_MO_frame h zi_MO zf_MO_29 dMO_instruction_234 ?_
    refine zz_aload_n h dMO_instruction_237 rfl ?_
    refine zm_g_MO_me h zi_MO zf_MO_113 dMO_instruction_238 ?_
    refine zz_iload_n h dMO_instruction_241 rfl ?_
    refine zz_top2 (fun v_15 => ?_)
    refine zm_st_7 h dMO_instruction_242 (fun s_16 => ?_)
    refine zz_aload_n h dMO_instruction_243 rfl ?_
    refine zm_g_MO_faults h zi_MO zf_MO_44 dMO_instruction_244 ?_
    refine zz_aload_n h dMO_instruction_247 rfl ?_
    refine zm_g_MO_me h zi_MO zf_MO_113 dMO_instruction_248 ?_
    refine zz_aload_n h dMO_instruction_251 rfl ?_
    refine zm_g_MO_fault h zi_MO zf_MO_68 dMO_instruction_252 ?_
    refine zz_top2 (fun v_17 => ?_)
    refine zm_st_12 h dMO_instruction_255 (fun s_18 => ?_)
    refine zz_aload_n h dMO_instruction_256 rfl ?_
    refine zm_g_MO_timeout h zi_MO zf_MO_41 dMO_instruction_257 ?_
    refine zz_aload_n h dMO_instruction_260 rfl ?_
    refine zm_g_MO_me h zi_MO zf_MO_113 dMO_instruction_261 ?_
    refine zz_iconst (v := 0) h dMO_instruction_264 zz_li_0 ?_
    refine zz_top2 (fun v_19 => ?_)
    refine zm_st_11 h dMO_instruction_265 (fun s_20 => ?_)
    exact zz_vret h dMO_instruction_266
set_option maxRecDepth 100000 in
set_option maxHeartbeats 4000000 in
theorem MO_instruction_189_w {l : Launch} {D : va_G} {ad : Nat → Nat} {cA : Nat → ClassId} {tb : Nat} {E : zz_E} (hV : zz_ok (zm_V l D ad cA tb)) (h : zz_X (zm_V l D ad cA tb) E "FrameProcessorModel" prog_10_method_37_code 6 zt_T 8 195 none) (x1 : Int32) (x4 : Int32) (st : zz_S) : zz_Z (zm_V l D ad cA tb) E 6 0 0 (zz_q (zm_V l D ad cA tb) E zz_jv) (MO_instruction_189 x1 x4 st) 189 [(0, .ref (ad 0)), (1, .int x1), (4, .int x4)] [] st := by
  unfold MO_instruction_189
  refine zz_aload_n h dMO_instruction_189 rfl ?_
  refine zm_g_MO_fault h zi_MO zf_MO_68 dMO_instruction_190 ?_
  refine zz_if_ne h 212 dMO_instruction_193 rfl ?_ ?_
  · refine zz_iload h dMO_instruction_196 rfl ?_
    refine zz_if_eq h 212 dMO_instruction_198 rfl ?_ ?_
    · exact zz_sub (MO_instruction_212_w hV h _ _) rfl
    · refine zz_aload_n h dMO_instruction_201 rfl ?_
      refine zz_iload_n h dMO_instruction_202 rfl ?_
      refine zz_iconst (v := 2) h dMO_instruction_203 zz_li_2 ?_
      refine zz_iadd h dMO_instruction_204 ?_
      refine zz_aload_n h dMO_instruction_205 rfl ?_
      refine zm_g_MO_next h zi_MO zf_MO_91 dMO_instruction_206 ?_
      refine zz_callV2v h 0 rfl rfl (MO_write_c hV _ _ _) MO_write_k zm_MO_103 rfl rfl ⟨Nat.le_of_ble_eq_true rfl, Nat.le_of_ble_eq_true rfl⟩ (Nat.le_of_ble_eq_true rfl) dMO_instruction_209 (fun _ s_21 => ?_)
      exact zz_sub (MO_instruction_212_w hV h _ _) rfl
  · exact zz_sub (MO_instruction_212_w hV h _ _) rfl
set_option maxRecDepth 100000 in
set_option maxHeartbeats 4000000 in
theorem MO_instruction_165_w {l : Launch} {D : va_G} {ad : Nat → Nat} {cA : Nat → ClassId} {tb : Nat} {E : zz_E} (hV : zz_ok (zm_V l D ad cA tb)) (h : zz_X (zm_V l D ad cA tb) E "FrameProcessorModel" prog_10_method_37_code 6 zt_T 8 195 none) (x1 : Int32) (y0 : Int32) (st : zz_S) : zz_Z (zm_V l D ad cA tb) E 6 0 0 (zz_q (zm_V l D ad cA tb) E zz_jv) (MO_instruction_165 x1 y0 st) 165 [(0, .ref (ad 0)), (1, .int x1)] [.int y0] st := by
  unfold MO_instruction_165
  refine zz_istore h dMO_instruction_165 (Nat.le_of_ble_eq_true rfl) ?_
  refine zz_aload_n h dMO_instruction_167 rfl ?_
  refine zm_g_MO_fault h zi_MO zf_MO_68 dMO_instruction_168 ?_
  refine zz_if_ne h 189 dMO_instruction_171 rfl ?_ ?_
  · refine zz_aload_n h dMO_instruction_174 rfl ?_
    refine zm_g_MO_top h zi_MO zf_MO_98 dMO_instruction_175 ?_
    refine zz_bipush (v := 8) h dMO_instruction_178 zz_lb_8 ?_
    refine zz_icmp_le h 189 dMO_instruction_180 rfl ?_ ?_
    · exact zz_sub (MO_instruction_189_w hV h _ _ _) rfl
    · refine zz_aload_n h dMO_instruction_183 rfl ?_
      refine zz_bipush (v := 6) h dMO_instruction_184 zz_lb_6 ?_
      refine zz_callV1v h 0 rfl rfl (MO_wrong_c hV _ _) MO_wrong_k zm_MO_75 rfl rfl ⟨Nat.le_of_ble_eq_true rfl, Nat.le_of_ble_eq_true rfl⟩ (Nat.le_of_ble_eq_true rfl) dMO_instruction_186 (fun _ s_22 => ?_)
      exact zz_sub (MO_instruction_189_w hV h _ _ _) rfl
  · exact zz_sub (MO_instruction_189_w hV h _ _ _) rfl
set_option maxRecDepth 100000 in
set_option maxHeartbeats 4000000 in
theorem MO_instruction_164_w {l : Launch} {D : va_G} {ad : Nat → Nat} {cA : Nat → ClassId} {tb : Nat} {E : zz_E} (hV : zz_ok (zm_V l D ad cA tb)) (h : zz_X (zm_V l D ad cA tb) E "FrameProcessorModel" prog_10_method_37_code 6 zt_T 8 195 none) (x1 : Int32) (st : zz_S) : zz_Z (zm_V l D ad cA tb) E 6 0 0 (zz_q (zm_V l D ad cA tb) E zz_jv) (MO_instruction_164 x1 st) 164 [(0, .ref (ad 0)), (1, .int x1)] [] st := by
  unfold MO_instruction_164
  refine zz_iconst (v := 0) h dMO_instruction_164 zz_li_0 ?_
  exact zz_sub (MO_instruction_165_w hV h _ _ _) rfl
set_option maxRecDepth 100000 in
set_option maxHeartbeats 4000000 in
theorem MO_instruction_50b_w {l : Launch} {D : va_G} {ad : Nat → Nat} {cA : Nat → ClassId} {tb : Nat} {E : zz_E} (hV : zz_ok (zm_V l D ad cA tb)) (h : zz_X (zm_V l D ad cA tb) E "FrameProcessorModel" prog_10_method_37_code 6 zt_T 8 195 none) {k50 : Int32 → Int32 → zz_S → Option (Unit × zz_S)} (hk50 : ∀ (x1 : Int32) (x2 : Int32) (st : zz_S), zz_Z (zm_V l D ad cA tb) E 6 0 0 (zz_q (zm_V l D ad cA tb) E zz_jv) (k50 x1 x2 st) 50 [(0, .ref (ad 0)), (1, .int x1), (2, .int x2)] [] st) (x1 : Int32) (x2 : Int32) (st : zz_S) : zz_Z (zm_V l D ad cA tb) E 6 0 0 (zz_q (zm_V l D ad cA tb) E zz_jv) (MO_instruction_50b k50 x1 x2 st) 50 [(0, .ref (ad 0)), (1, .int x1), (2, .int x2)] [] st := by
  unfold MO_instruction_50b
  refine zz_iload_n h dMO_instruction_50 rfl ?_
  refine zz_bipush (v := 8) h dMO_instruction_51 zz_lb_8 ?_
  refine zz_icmp_ge h 82 dMO_instruction_53 rfl ?_ ?_
  · refine zz_aload_n h dMO_instruction_82 rfl ?_
    refine zz_aload_n h dMO_instruction_83 rfl ?_
    refine zz_iload_n h dMO_instruction_84 rfl ?_
    refine zz_iconst (v := 1) h dMO_instruction_85 zz_li_1 ?_
    refine zz_iadd h dMO_instruction_86 ?_
    refine zz_callV1i h 0 rfl rfl (MO_read_c hV _ _) MO_read_k zm_MO_85 rfl rfl ⟨Nat.le_of_ble_eq_true rfl, Nat.le_of_ble_eq_true rfl⟩ (Nat.le_of_ble_eq_true rfl) dMO_instruction_87 (fun r_24 s_23 => ?_)
    refine zz_bipush (v := 15) h dMO_instruction_90 zz_lb_15 ?_
    refine zz_iand h dMO_instruction_92 ?_
    refine zm_p_MO_globalNumber h zi_MO zf_MO_161 dMO_instruction_93 (fun s_25 => ?_)
    refine zz_aload_n h dMO_instruction_96 rfl ?_
    refine zz_aload_n h dMO_instruction_97 rfl ?_
    refine zz_bipush (v := 32) h dMO_instruction_98 zz_lb_32 ?_
    refine zz_aload_n h dMO_instruction_100 rfl ?_
    refine zm_g_MO_globalNumber h zi_MO zf_MO_161 dMO_instruction_101 ?_
    refine zz_iadd h dMO_instruction_104 ?_
    refine zz_callV1i h 0 rfl rfl (MO_read_c hV _ _) MO_read_k zm_MO_85 rfl rfl ⟨Nat.le_of_ble_eq_true rfl, Nat.le_of_ble_eq_true rfl⟩ (Nat.le_of_ble_eq_true rfl) dMO_instruction_105 (fun r_27 s_26 => ?_)
    refine zm_p_MO_globals h zi_MO zf_MO_151 dMO_instruction_108 (fun s_28 => ?_)
    refine zz_aload_n h dMO_instruction_111 rfl ?_
    refine zz_aload_n h dMO_instruction_112 rfl ?_
    refine zz_aload_n h dMO_instruction_113 rfl ?_
    refine zm_g_MO_globals h zi_MO zf_MO_151 dMO_instruction_114 ?_
    refine zz_callV1i h 0 rfl rfl (MO_read_c hV _ _) MO_read_k zm_MO_85 rfl rfl ⟨Nat.le_of_ble_eq_true rfl, Nat.le_of_ble_eq_true rfl⟩ (Nat.le_of_ble_eq_true rfl) dMO_instruction_117 (fun r_30 s_29 => ?_)
    refine zm_p_MO_code h zi_MO zf_MO_88 dMO_instruction_120 (fun s_31 => ?_)
    refine zz_aload_n h dMO_instruction_123 rfl ?_
    refine zz_aload_n h dMO_instruction_124 rfl ?_
    refine zz_iload_n h dMO_instruction_125 rfl ?_
    refine zz_iconst (v := 2) h dMO_instruction_126 zz_li_2 ?_
    refine zz_iadd h dMO_instruction_127 ?_
    refine zz_callV1i h 0 rfl rfl (MO_read_c hV _ _) MO_read_k zm_MO_85 rfl rfl ⟨Nat.le_of_ble_eq_true rfl, Nat.le_of_ble_eq_true rfl⟩ (Nat.le_of_ble_eq_true rfl) dMO_instruction_128 (fun r_33 s_32 => ?_)
    refine zm_p_MO_next h zi_MO zf_MO_91 dMO_instruction_131 (fun s_34 => ?_)
    refine zz_aload_n h dMO_instruction_134 rfl ?_
    refine zm_g_MO_next h zi_MO zf_MO_91 dMO_instruction_135 ?_
    refine zz_topi (fun v_35 => ?_)
    refine zz_istore_n h dMO_instruction_138 (Nat.le_of_ble_eq_true rfl) ?_
    refine zz_aload_n h dMO_instruction_139 rfl ?_
    refine zz_callV0i h 0 rfl rfl (MO_nextByte_c hV _) MO_nextByte_k zm_MO_148 rfl rfl ⟨Nat.le_of_ble_eq_true rfl, Nat.le_of_ble_eq_true rfl⟩ (Nat.le_of_ble_eq_true rfl) dMO_instruction_140 (fun r_37 s_36 => ?_)
    refine zz_istore_n h dMO_instruction_143 (Nat.le_of_ble_eq_true rfl) ?_
    refine zz_aload_n h dMO_instruction_144 rfl ?_
    refine zm_g_MO_fault h zi_MO zf_MO_68 dMO_instruction_145 ?_
    refine zz_if_ne h 164 dMO_instruction_148 rfl ?_ ?_
    · refine zz_aload_n h dMO_instruction_151 rfl ?_
      refine zz_iload_n h dMO_instruction_152 rfl ?_
      refine zz_iload_n h dMO_instruction_153 rfl ?_
      refine zz_callV2i h 0 rfl rfl (MO_act_c hV _ _ _) MO_act_k zm_MO_209 rfl rfl ⟨Nat.le_of_ble_eq_true rfl, Nat.le_of_ble_eq_true rfl⟩ (Nat.le_of_ble_eq_true rfl) dMO_instruction_154 (fun r_39 s_38 => ?_)
      refine zz_if_eq h 164 dMO_instruction_157 rfl ?_ ?_
      · exact zz_sub (MO_instruction_164_w hV h _ _) rfl
      · refine zz_iconst (v := 1) h dMO_instruction_160 zz_li_1 ?_
        refine zz_goto h 165 dMO_instruction_161 rfl ?_
        exact zz_sub (MO_instruction_165_w hV h _ _ _) rfl
    · exact zz_sub (MO_instruction_164_w hV h _ _) rfl
  · refine zz_aload_n h dMO_instruction_56 rfl ?_
    refine zm_g_MO_mine h zi_MO zf_MO_57 dMO_instruction_57 ?_
    refine zz_iload_n h dMO_instruction_60 rfl ?_
    refine zz_aload_n h dMO_instruction_61 rfl ?_
    refine zm_g_MO_stack h zi_MO zf_MO_35 dMO_instruction_62 ?_
    refine zz_bipush (v := 8) h dMO_instruction_65 zz_lb_8 ?_
    refine zz_aload_n h dMO_instruction_67 rfl ?_
    refine zm_g_MO_me h zi_MO zf_MO_113 dMO_instruction_68 ?_
    refine zz_imul h dMO_instruction_71 ?_
    refine zz_iload_n h dMO_instruction_72 rfl ?_
    refine zz_iadd h dMO_instruction_73 ?_
    refine zz_topi (fun v_40 => ?_)
    refine zm_ld_9 h dMO_instruction_74 ?_
    refine zm_st_16 h dMO_instruction_75 (fun s_41 => ?_)
    refine zz_iinc h (1 : Int32) dMO_instruction_76 zz_li_1 rfl (Nat.le_of_ble_eq_true rfl) ?_
    refine zz_goto h 50 dMO_instruction_79 rfl ?_
    exact zz_sub (hk50 _ _ _) rfl
theorem MO_instruction_50_w {l : Launch} {D : va_G} {ad : Nat → Nat} {cA : Nat → ClassId} {tb : Nat} {E : zz_E} (hV : zz_ok (zm_V l D ad cA tb)) (h : zz_X (zm_V l D ad cA tb) E "FrameProcessorModel" prog_10_method_37_code 6 zt_T 8 195 none) : ∀ (n : Nat) (x1 : Int32) (x2 : Int32) (st : zz_S), zz_Z (zm_V l D ad cA tb) E 6 0 0 (zz_q (zm_V l D ad cA tb) E zz_jv) (MO_instruction_50 n x1 x2 st) 50 [(0, .ref (ad 0)), (1, .int x1), (2, .int x2)] [] st
  | 0, _, _, _ => zz_none
  | n + 1, x1, x2, st => MO_instruction_50b_w hV h (MO_instruction_50_w hV h n) x1 x2 st
set_option maxRecDepth 100000 in
set_option maxHeartbeats 4000000 in
theorem MO_instruction_w {l : Launch} {D : va_G} {ad : Nat → Nat} {cA : Nat → ClassId} {tb : Nat} {E : zz_E} (hV : zz_ok (zm_V l D ad cA tb)) (h : zz_X (zm_V l D ad cA tb) E "FrameProcessorModel" prog_10_method_37_code 6 zt_T 8 195 none) (st : zz_S) : zz_Z (zm_V l D ad cA tb) E 6 0 0 (zz_q (zm_V l D ad cA tb) E zz_jv) (MO_instruction_f  st) 0 [(0, .ref (ad 0))] [] st := by
  unfold MO_instruction_f
  refine zz_aload_n h dMO_instruction_0 rfl ?_
  refine zz_iconst (v := 0) h dMO_instruction_1 zz_li_0 ?_
  refine zm_p_MO_fault h zi_MO zf_MO_68 dMO_instruction_2 (fun s_42 => ?_)
  refine zz_aload_n h dMO_instruction_5 rfl ?_
  refine zz_iconst (v := 0) h dMO_instruction_6 zz_li_0 ?_
  refine zm_p_MO_written h zi_MO zf_MO_79 dMO_instruction_7 (fun s_43 => ?_)
  refine zz_aload_n h dMO_instruction_10 rfl ?_
  refine zz_iconst (v := 0) h dMO_instruction_11 zz_li_0 ?_
  refine zm_p_MO_waking h zi_MO zf_MO_126 dMO_instruction_12 (fun s_44 => ?_)
  refine zz_aload_n h dMO_instruction_15 rfl ?_
  refine zz_iconst (v := 0) h dMO_instruction_16 zz_li_0 ?_
  refine zm_p_MO_yields h zi_MO zf_MO_187 dMO_instruction_17 (fun s_45 => ?_)
  refine zz_aload_n h dMO_instruction_20 rfl ?_
  refine zz_iconst (v := -1) h dMO_instruction_21 zz_li_m1 ?_
  refine zm_p_MO_newborn h zi_MO zf_MO_200 dMO_instruction_22 (fun s_46 => ?_)
  refine zz_aload_n h dMO_instruction_25 rfl ?_
  refine zm_g_MO_frame h zi_MO zf_MO_29 dMO_instruction_26 ?_
  refine zz_aload_n h dMO_instruction_29 rfl ?_
  refine zm_g_MO_me h zi_MO zf_MO_113 dMO_instruction_30 ?_
  refine zz_topi (fun v_47 => ?_)
  refine zm_ld_7 h dMO_instruction_33 ?_
  refine zz_topi (fun v_48 => ?_)
  refine zz_istore_n h dMO_instruction_34 (Nat.le_of_ble_eq_true rfl) ?_
  refine zz_aload_n h dMO_instruction_35 rfl ?_
  refine zz_aload_n h dMO_instruction_36 rfl ?_
  refine zm_g_MO_size h zi_MO zf_MO_32 dMO_instruction_37 ?_
  refine zz_aload_n h dMO_instruction_40 rfl ?_
  refine zm_g_MO_me h zi_MO zf_MO_113 dMO_instruction_41 ?_
  refine zz_topi (fun v_49 => ?_)
  refine zm_ld_8 h dMO_instruction_44 ?_
  refine zm_p_MO_top h zi_MO zf_MO_98 dMO_instruction_45 (fun s_50 => ?_)
  refine zz_iconst (v := 0) h dMO_instruction_48 zz_li_0 ?_
  refine zz_istore_n h dMO_instruction_49 (Nat.le_of_ble_eq_true rfl) ?_
  exact zz_sub (MO_instruction_50_w hV h _ _ _ _) rfl
theorem MO_instruction_c {l : Launch} {D : va_G} {ad : Nat → Nat} {cA : Nat → ClassId} {tb : Nat} (hV : zz_ok (zm_V l D ad cA tb)) (st : zz_S) : zz_C (zm_V l D ad cA tb) yMO_instruction (Cond.code yMO_instruction prog_10_method_37_code 6 none :: zt_T) { frames := 8, cells := 0, slots := 0, locals := 195 } zz_jv [.ref (ad 0)] st (MO_instruction_f  st) := zz_met hV (by decide +kernel) rfl (Nat.le_of_ble_eq_true rfl) rfl (fun E h => MO_instruction_w hV h  st)
