def RO_begin_f (t1 : Nat) (x2 : Int32) (x3 : Int32) (st : zz_S) : Option (Unit × zz_S) := (zz_nm (zz_ap st 9 t1 x2) fun s_1 => (zz_nm (zz_ap s_1 8 t1 x3) fun s_2 => (zz_nm (zz_ap s_2 10 t1 (0 : Int32)) fun s_3 => (zz_bd (RO_makeReady_f t1 s_3) fun _ s_4 => (some ((), s_4))))))
set_option maxRecDepth 100000 in
set_option maxHeartbeats 4000000 in
theorem RO_begin_w {l : Launch} {D : va_G} {ad : Nat → Nat} {cA : Nat → ClassId} {tb : Nat} {E : zz_E} (hV : zz_ok (zc_V l D ad cA tb)) (h : zz_X (zc_V l D ad cA tb) E "FrameProcessor$Roster" prog_6_method_9_code 4 zt_T 2 43 none) (t1 : Nat) (ht1 : t1 < 6) (x2 : Int32) (x3 : Int32) (st : zz_S) : zz_Z (zc_V l D ad cA tb) E 4 0 0 (zz_q (zc_V l D ad cA tb) E zz_jv) (RO_begin_f t1 x2 x3 st) 0 [(0, .ref (ad 2)), (1, .ref (ad (15 + t1))), (2, .int x2), (3, .int x3)] [] st := by
  unfold RO_begin_f
  refine zz_aload_n h dRO_begin_0 rfl ?_
  refine zz_iload_n h dRO_begin_1 rfl ?_
  refine zc_p_TA_frame ht1 h zi_TA zf_RO_49 dRO_begin_2 (fun s_1 => ?_)
  refine zz_aload_n h dRO_begin_5 rfl ?_
  refine zz_iload_n h dRO_begin_6 rfl ?_
  refine zc_p_TA_priority ht1 h zi_TA zf_RO_52 dRO_begin_7 (fun s_2 => ?_)
  refine zz_aload_n h dRO_begin_10 rfl ?_
  refine zz_iconst (v := 0) h dRO_begin_11 zz_li_0 ?_
  refine zc_p_TA_depth ht1 h zi_TA zf_RO_55 dRO_begin_12 (fun s_3 => ?_)
  refine zz_aload_n h dRO_begin_15 rfl ?_
  refine zz_aload_n h dRO_begin_16 rfl ?_
  refine zz_callV1v h 2 rfl rfl (RO_makeReady_c hV _ ht1 _) RO_makeReady_k zm_RO_58 rfl rfl ⟨Nat.le_of_ble_eq_true rfl, Nat.le_of_ble_eq_true rfl⟩ (Nat.le_of_ble_eq_true rfl) dRO_begin_17 (fun _ s_4 => ?_)
  exact zz_vret h dRO_begin_20
theorem RO_begin_c {l : Launch} {D : va_G} {ad : Nat → Nat} {cA : Nat → ClassId} {tb : Nat} (hV : zz_ok (zc_V l D ad cA tb)) (t1 : Nat) (ht1 : t1 < 6) (x2 : Int32) (x3 : Int32) (st : zz_S) : zz_C (zc_V l D ad cA tb) yRO_begin (Cond.code yRO_begin prog_6_method_9_code 4 none :: zt_T) { frames := 2, cells := 0, slots := 0, locals := 43 } zz_jv [.ref (ad 2), .ref (ad (15 + t1)), .int x2, .int x3] st (RO_begin_f t1 x2 x3 st) := zz_met hV (by decide +kernel) rfl (Nat.le_of_ble_eq_true rfl) rfl (fun E h => RO_begin_w hV h t1 ht1 x2 x3 st)
def PR_launch_30 (st : zz_S) : Option (Int32 × zz_S) := (zz_bd (ME_undo_f st) fun _ s_1 => (some ((-1 : Int32), s_1)))
def PR_launch_f (x1 : Int32) (x2 : Int32) (st : zz_S) : Option (Int32 × zz_S) := (zz_bd (ME_begin_f st) fun _ s_2 => (zz_bd (PR_prepareChild_f x1 x2 s_2) fun _ s_3 => (zz_bd (ME_hasFailed_f s_3) fun r_5 s_4 => (if r_5 = 0 then (zz_oc (zz_qg s_4 1) (PR_launch_30 s_4) fun t_6 => zz_gd (Nat.blt t_6 6) (zz_oc (zz_qg s_4 1) none fun t_8 => zz_gd (Nat.blt t_8 6) (zz_bd (RO_begin_f t_8 (zz_sg s_4 11) (zz_sg s_4 12) s_4) fun _ s_9 => (zz_oc (zz_qg s_9 1) none fun t_10 => zz_gd (Nat.blt t_10 6) (some ((Int32.ofNat t_10), s_9)))))) else (PR_launch_30 s_4)))))
set_option maxRecDepth 100000 in
set_option maxHeartbeats 4000000 in
theorem PR_launch_30_w {l : Launch} {D : va_G} {ad : Nat → Nat} {cA : Nat → ClassId} {tb : Nat} {E : zz_E} (hV : zz_ok (zc_V l D ad cA tb)) (h : zz_X (zc_V l D ad cA tb) E "FrameProcessor$Processor" prog_5_method_2_code 3 zt_T 4 98 (some .int)) (st : zz_S) : zz_Z (zc_V l D ad cA tb) E 3 0 0 (zz_q (zc_V l D ad cA tb) E zz_ji) (PR_launch_30  st) 30 [(0, .ref (ad 3))] [] st := by
  unfold PR_launch_30
  refine zz_aload_n h dPR_launch_30 rfl ?_
  refine zc_g_PR_memory h zi_PR zf_PR_9 dPR_launch_31 ?_
  refine zz_callV0v h 1 rfl rfl (ME_undo_c hV _) ME_undo_k zm_PR_61 rfl rfl ⟨Nat.le_of_ble_eq_true rfl, Nat.le_of_ble_eq_true rfl⟩ (Nat.le_of_ble_eq_true rfl) dPR_launch_34 (fun _ s_1 => ?_)
  refine zz_iconst (v := -1) h dPR_launch_37 zz_li_m1 ?_
  exact zz_iret h dPR_launch_38
set_option maxRecDepth 100000 in
set_option maxHeartbeats 4000000 in
theorem PR_launch_w {l : Launch} {D : va_G} {ad : Nat → Nat} {cA : Nat → ClassId} {tb : Nat} {E : zz_E} (hV : zz_ok (zc_V l D ad cA tb)) (h : zz_X (zc_V l D ad cA tb) E "FrameProcessor$Processor" prog_5_method_2_code 3 zt_T 4 98 (some .int)) (x1 : Int32) (x2 : Int32) (st : zz_S) : zz_Z (zc_V l D ad cA tb) E 3 0 0 (zz_q (zc_V l D ad cA tb) E zz_ji) (PR_launch_f x1 x2 st) 0 [(0, .ref (ad 3)), (1, .int x1), (2, .int x2)] [] st := by
  unfold PR_launch_f
  refine zz_aload_n h dPR_launch_0 rfl ?_
  refine zc_g_PR_memory h zi_PR zf_PR_9 dPR_launch_1 ?_
  refine zz_callV0v h 1 rfl rfl (ME_begin_c hV _) ME_begin_k zm_PR_44 rfl rfl ⟨Nat.le_of_ble_eq_true rfl, Nat.le_of_ble_eq_true rfl⟩ (Nat.le_of_ble_eq_true rfl) dPR_launch_4 (fun _ s_2 => ?_)
  refine zz_aload_n h dPR_launch_7 rfl ?_
  refine zz_iload_n h dPR_launch_8 rfl ?_
  refine zz_iload_n h dPR_launch_9 rfl ?_
  refine zz_callV2v h 3 rfl rfl (PR_prepareChild_c hV _ _ _) PR_prepareChild_k zm_PR_49 rfl rfl ⟨Nat.le_of_ble_eq_true rfl, Nat.le_of_ble_eq_true rfl⟩ (Nat.le_of_ble_eq_true rfl) dPR_launch_10 (fun _ s_3 => ?_)
  refine zz_aload_n h dPR_launch_13 rfl ?_
  refine zc_g_PR_memory h zi_PR zf_PR_9 dPR_launch_14 ?_
  refine zz_callV0i h 1 rfl rfl (ME_hasFailed_c hV _) ME_hasFailed_k zm_PR_53 rfl rfl ⟨Nat.le_of_ble_eq_true rfl, Nat.le_of_ble_eq_true rfl⟩ (Nat.le_of_ble_eq_true rfl) dPR_launch_17 (fun r_5 s_4 => ?_)
  refine zz_if_ne h 30 dPR_launch_20 rfl ?_ ?_
  · refine zz_aload_n h dPR_launch_23 rfl ?_
    refine zc_g_PR_child h zi_PR zf_PR_57 dPR_launch_24 ?_
    refine zz_ifnonnull h 39 dPR_launch_27 rfl (fun e_7 => ?_) (fun t_6 ht_6 e_7 => ?_)
    · exact zz_sub (PR_launch_30_w hV h  _) rfl
    · refine zz_aload_n h dPR_launch_39 rfl ?_
      refine zc_g_PR_roster h zi_PR zf_PR_15 dPR_launch_40 ?_
      refine zz_aload_n h dPR_launch_43 rfl ?_
      refine zc_g_PR_child h zi_PR zf_PR_57 dPR_launch_44 ?_
      refine zz_nn (fun t_8 ht_8 => ?_)
      refine zz_aload_n h dPR_launch_47 rfl ?_
      refine zc_g_PR_childFrame h zi_PR zf_PR_64 dPR_launch_48 ?_
      refine zz_aload_n h dPR_launch_51 rfl ?_
      refine zc_g_PR_childPriority h zi_PR zf_PR_68 dPR_launch_52 ?_
      refine zz_callV3v h 2 rfl rfl (RO_begin_c hV _ ht_8 _ _ _) RO_begin_k zm_PR_71 rfl rfl ⟨Nat.le_of_ble_eq_true rfl, Nat.le_of_ble_eq_true rfl⟩ (Nat.le_of_ble_eq_true rfl) dPR_launch_55 (fun _ s_9 => ?_)
      refine zz_aload_n h dPR_launch_58 rfl ?_
      refine zc_g_PR_child h zi_PR zf_PR_57 dPR_launch_59 ?_
      refine zz_nn (fun t_10 ht_10 => ?_)
      refine zc_g_TA_number ht_10 h zi_TA zf_PR_76 dPR_launch_62 ?_
      exact zz_iret h dPR_launch_65
  · exact zz_sub (PR_launch_30_w hV h  _) rfl
theorem PR_launch_c {l : Launch} {D : va_G} {ad : Nat → Nat} {cA : Nat → ClassId} {tb : Nat} (hV : zz_ok (zc_V l D ad cA tb)) (x1 : Int32) (x2 : Int32) (st : zz_S) : zz_C (zc_V l D ad cA tb) yPR_launch (Cond.code yPR_launch prog_5_method_2_code 3 (some .int) :: zt_T) { frames := 4, cells := 0, slots := 0, locals := 98 } zz_ji [.ref (ad 3), .int x1, .int x2] st (PR_launch_f x1 x2 st) := zz_met hV (by decide +kernel) rfl (Nat.le_of_ble_eq_true rfl) rfl (fun E h => PR_launch_w hV h x1 x2 st)
def WS_loadFrom_10b (k10 : Nat → Int32 → zz_S → Option (Unit × zz_S)) (t1 : Nat) (x2 : Int32) (st : zz_S) : Option (Unit × zz_S) := (if (zz_sg st 13) ≤ x2 then (some ((), st)) else (zz_gd (zz_in x2 8) (zz_gd (zz_in x2 9) (zz_nm (zz_ap st 6 x2.toNatClampNeg (zz_ag st (20 + t1) x2.toNatClampNeg)) fun s_1 => (k10 t1 (x2 + (1 : Int32)) s_1)))))
def WS_loadFrom_10 : Nat → Nat → Int32 → zz_S → Option (Unit × zz_S)
  | 0 => fun _ _ _ => none
  | n + 1 => WS_loadFrom_10b (WS_loadFrom_10 n)
def WS_loadFrom_f (t1 : Nat) (st : zz_S) : Option (Unit × zz_S) := (zz_nm (zz_sp st 13 (zz_ag st 10 t1)) fun s_2 => (WS_loadFrom_10 10 t1 (0 : Int32) s_2))
set_option maxRecDepth 100000 in
set_option maxHeartbeats 4000000 in
theorem WS_loadFrom_10b_w {l : Launch} {D : va_G} {ad : Nat → Nat} {cA : Nat → ClassId} {tb : Nat} {E : zz_E} (hV : zz_ok (zc_V l D ad cA tb)) (h : zz_X (zc_V l D ad cA tb) E "FrameProcessor$WorkStack" prog_8_method_2_code 3 zt_T 0 0 none) {k10 : Nat → Int32 → zz_S → Option (Unit × zz_S)} (hk10 : ∀ (t1 : Nat) (ht1 : t1 < 6) (x2 : Int32) (st : zz_S), zz_Z (zc_V l D ad cA tb) E 3 0 0 (zz_q (zc_V l D ad cA tb) E zz_jv) (k10 t1 x2 st) 10 [(0, .ref (ad 5)), (1, .ref (ad (15 + t1))), (2, .int x2)] [] st) (t1 : Nat) (ht1 : t1 < 6) (x2 : Int32) (st : zz_S) : zz_Z (zc_V l D ad cA tb) E 3 0 0 (zz_q (zc_V l D ad cA tb) E zz_jv) (WS_loadFrom_10b k10 t1 x2 st) 10 [(0, .ref (ad 5)), (1, .ref (ad (15 + t1))), (2, .int x2)] [] st := by
  unfold WS_loadFrom_10b
  refine zz_iload_n h dWS_loadFrom_10 rfl ?_
  refine zz_aload_n h dWS_loadFrom_11 rfl ?_
  refine zc_g_WS_depth h zi_WS zf_WS_25 dWS_loadFrom_12 ?_
  refine zz_icmp_ge h 36 dWS_loadFrom_15 rfl ?_ ?_
  · exact zz_vret h dWS_loadFrom_36
  · refine zz_aload_n h dWS_loadFrom_18 rfl ?_
    refine zc_g_WS_words h zi_WS zf_WS_13 dWS_loadFrom_19 ?_
    refine zz_iload_n h dWS_loadFrom_22 rfl ?_
    refine zz_aload_n h dWS_loadFrom_23 rfl ?_
    refine zc_g_TA_words ht1 h zi_TA zf_WS_26 dWS_loadFrom_24 ?_
    refine zz_iload_n h dWS_loadFrom_27 rfl ?_
    refine zc_ldW ht1 h dWS_loadFrom_28 ?_
    refine zc_st_14 h dWS_loadFrom_29 (fun s_1 => ?_)
    refine zz_iinc h (1 : Int32) dWS_loadFrom_30 zz_li_1 rfl (Nat.le_of_ble_eq_true rfl) ?_
    refine zz_goto h 10 dWS_loadFrom_33 rfl ?_
    exact zz_sub (hk10 _ ht1 _ _) rfl
theorem WS_loadFrom_10_w {l : Launch} {D : va_G} {ad : Nat → Nat} {cA : Nat → ClassId} {tb : Nat} {E : zz_E} (hV : zz_ok (zc_V l D ad cA tb)) (h : zz_X (zc_V l D ad cA tb) E "FrameProcessor$WorkStack" prog_8_method_2_code 3 zt_T 0 0 none) : ∀ (n : Nat) (t1 : Nat) (ht1 : t1 < 6) (x2 : Int32) (st : zz_S), zz_Z (zc_V l D ad cA tb) E 3 0 0 (zz_q (zc_V l D ad cA tb) E zz_jv) (WS_loadFrom_10 n t1 x2 st) 10 [(0, .ref (ad 5)), (1, .ref (ad (15 + t1))), (2, .int x2)] [] st
  | 0, _, _, _, _ => zz_none
  | n + 1, t1, ht1, x2, st => WS_loadFrom_10b_w hV h (WS_loadFrom_10_w hV h n) t1 ht1 x2 st
set_option maxRecDepth 100000 in
set_option maxHeartbeats 4000000 in
theorem WS_loadFrom_w {l : Launch} {D : va_G} {ad : Nat → Nat} {cA : Nat → ClassId} {tb : Nat} {E : zz_E} (hV : zz_ok (zc_V l D ad cA tb)) (h : zz_X (zc_V l D ad cA tb) E "FrameProcessor$WorkStack" prog_8_method_2_code 3 zt_T 0 0 none) (t1 : Nat) (ht1 : t1 < 6) (st : zz_S) : zz_Z (zc_V l D ad cA tb) E 3 0 0 (zz_q (zc_V l D ad cA tb) E zz_jv) (WS_loadFrom_f t1 st) 0 [(0, .ref (ad 5)), (1, .ref (ad (15 + t1)))] [] st := by
  unfold WS_loadFrom_f
  refine zz_aload_n h dWS_loadFrom_0 rfl ?_
  refine zz_aload_n h dWS_loadFrom_1 rfl ?_
  refine zc_g_TA_depth ht1 h zi_TA zf_WS_21 dWS_loadFrom_2 ?_
  refine zc_p_WS_depth h zi_WS zf_WS_25 dWS_loadFrom_5 (fun s_2 => ?_)
  refine zz_iconst (v := 0) h dWS_loadFrom_8 zz_li_0 ?_
  refine zz_istore_n h dWS_loadFrom_9 (Nat.le_of_ble_eq_true rfl) ?_
  exact zz_sub (WS_loadFrom_10_w hV h _ _ ht1 _ _) rfl
theorem WS_loadFrom_c {l : Launch} {D : va_G} {ad : Nat → Nat} {cA : Nat → ClassId} {tb : Nat} (hV : zz_ok (zc_V l D ad cA tb)) (t1 : Nat) (ht1 : t1 < 6) (st : zz_S) : zz_C (zc_V l D ad cA tb) yWS_loadFrom (Cond.code yWS_loadFrom prog_8_method_2_code 3 none :: zt_T) { frames := 0, cells := 0, slots := 0, locals := 0 } zz_jv [.ref (ad 5), .ref (ad (15 + t1))] st (WS_loadFrom_f t1 st) := zz_met hV (by decide +kernel) rfl (Nat.le_of_ble_eq_true rfl) rfl (fun E h => WS_loadFrom_w hV h t1 ht1 st)
def PR_beginWith_f (t1 : Nat) (st : zz_S) : Option (Unit × zz_S) := (zz_bd (ME_begin_f st) fun _ s_1 => (zz_bd (WS_loadFrom_f t1 s_1) fun _ s_2 => (zz_nm (zz_qp s_2 0 (some t1)) fun s_3 => (zz_nm (zz_sp s_3 3 (zz_ag s_3 9 t1)) fun s_4 => (zz_gd (zz_bo (1 : Int32)) (zz_nm (zz_sp s_4 4 (1 : Int32)) fun s_5 => (zz_gd (zz_bo (0 : Int32)) (zz_nm (zz_sp s_5 5 (0 : Int32)) fun s_6 => (zz_gd (zz_bo (0 : Int32)) (zz_nm (zz_sp s_6 6 (0 : Int32)) fun s_7 => (zz_gd (zz_bo (0 : Int32)) (zz_nm (zz_sp s_7 7 (0 : Int32)) fun s_8 => (some ((), s_8))))))))))))))
set_option maxRecDepth 100000 in
set_option maxHeartbeats 4000000 in
theorem PR_beginWith_w {l : Launch} {D : va_G} {ad : Nat → Nat} {cA : Nat → ClassId} {tb : Nat} {E : zz_E} (hV : zz_ok (zc_V l D ad cA tb)) (h : zz_X (zc_V l D ad cA tb) E "FrameProcessor$Processor" prog_5_method_4_code 2 zt_T 1 22 none) (t1 : Nat) (ht1 : t1 < 6) (st : zz_S) : zz_Z (zc_V l D ad cA tb) E 2 0 0 (zz_q (zc_V l D ad cA tb) E zz_jv) (PR_beginWith_f t1 st) 0 [(0, .ref (ad 3)), (1, .ref (ad (15 + t1)))] [] st := by
  unfold PR_beginWith_f
  refine zz_aload_n h dPR_beginWith_0 rfl ?_
  refine zc_g_PR_memory h zi_PR zf_PR_9 dPR_beginWith_1 ?_
  refine zz_callV0v h 1 rfl rfl (ME_begin_c hV _) ME_begin_k zm_PR_44 rfl rfl ⟨Nat.le_of_ble_eq_true rfl, Nat.le_of_ble_eq_true rfl⟩ (Nat.le_of_ble_eq_true rfl) dPR_beginWith_4 (fun _ s_1 => ?_)
  refine zz_aload_n h dPR_beginWith_7 rfl ?_
  refine zc_g_PR_stack h zi_PR zf_PR_31 dPR_beginWith_8 ?_
  refine zz_aload_n h dPR_beginWith_11 rfl ?_
  refine zz_callV1v h 5 rfl rfl (WS_loadFrom_c hV _ ht1 _) WS_loadFrom_k zm_PR_137 rfl rfl ⟨Nat.le_of_ble_eq_true rfl, Nat.le_of_ble_eq_true rfl⟩ (Nat.le_of_ble_eq_true rfl) dPR_beginWith_12 (fun _ s_2 => ?_)
  refine zz_aload_n h dPR_beginWith_15 rfl ?_
  refine zz_aload_n h dPR_beginWith_16 rfl ?_
  refine zc_p_PR_task (some t1) h zi_PR zf_PR_114 dPR_beginWith_17 (fun s_3 => ?_)
  refine zz_aload_n h dPR_beginWith_20 rfl ?_
  refine zz_aload_n h dPR_beginWith_21 rfl ?_
  refine zc_g_TA_frame ht1 h zi_TA zf_PR_140 dPR_beginWith_22 ?_
  refine zc_p_PR_frame h zi_PR zf_PR_85 dPR_beginWith_25 (fun s_4 => ?_)
  refine zz_aload_n h dPR_beginWith_28 rfl ?_
  refine zz_iconst (v := 1) h dPR_beginWith_29 zz_li_1 ?_
  refine zc_p_PR_savesNext h zi_PR zf_PR_141 dPR_beginWith_30 (fun s_5 => ?_)
  refine zz_aload_n h dPR_beginWith_33 rfl ?_
  refine zz_iconst (v := 0) h dPR_beginWith_34 zz_li_0 ?_
  refine zc_p_PR_ends h zi_PR zf_PR_144 dPR_beginWith_35 (fun s_6 => ?_)
  refine zz_aload_n h dPR_beginWith_38 rfl ?_
  refine zz_iconst (v := 0) h dPR_beginWith_39 zz_li_0 ?_
  refine zc_p_PR_blocks h zi_PR zf_PR_110 dPR_beginWith_40 (fun s_7 => ?_)
  refine zz_aload_n h dPR_beginWith_43 rfl ?_
  refine zz_iconst (v := 0) h dPR_beginWith_44 zz_li_0 ?_
  refine zc_p_PR_waits h zi_PR zf_PR_147 dPR_beginWith_45 (fun s_8 => ?_)
  exact zz_vret h dPR_beginWith_48
theorem PR_beginWith_c {l : Launch} {D : va_G} {ad : Nat → Nat} {cA : Nat → ClassId} {tb : Nat} (hV : zz_ok (zc_V l D ad cA tb)) (t1 : Nat) (ht1 : t1 < 6) (st : zz_S) : zz_C (zc_V l D ad cA tb) yPR_beginWith (Cond.code yPR_beginWith prog_5_method_4_code 2 none :: zt_T) { frames := 1, cells := 0, slots := 0, locals := 22 } zz_jv [.ref (ad 3), .ref (ad (15 + t1))] st (PR_beginWith_f t1 st) := zz_met hV (by decide +kernel) rfl (Nat.le_of_ble_eq_true rfl) rfl (fun E h => PR_beginWith_w hV h t1 ht1 st)
def IN_fetch_122b (k122 : Int32 → Int32 → Int32 → zz_S → Option (Unit × zz_S)) (x2 : Int32) (x3 : Int32) (x4 : Int32) (st : zz_S) : Option (Unit × zz_S) := (if x3 < x4 then (zz_nm (zz_sp st 19 (((zz_sg st 16) + (1 : Int32)) + x3)) fun s_1 => (some ((), s_1))) else (zz_bd (FR_byteAt_f x2 ((zz_sg st 16) + x4) st) fun r_3 s_2 => (zz_nm (zz_sp s_2 18 (((zz_sg st 18) * (256 : Int32)) + r_3)) fun s_4 => (k122 x2 x3 (x4 + (1 : Int32)) s_4))))
def IN_fetch_122 : Nat → Int32 → Int32 → Int32 → zz_S → Option (Unit × zz_S)
  | 0 => fun _ _ _ _ => none
  | n + 1 => IN_fetch_122b (IN_fetch_122 n)
def IN_fetch_114 (x2 : Int32) (x3 : Int32) (st : zz_S) : Option (Unit × zz_S) := (zz_nm (zz_sp st 18 (0 : Int32)) fun s_5 => (IN_fetch_122 10 x2 x3 (1 : Int32) s_5))
def IN_fetch_100 (x2 : Int32) (y0 : Int32) (st : zz_S) : Option (Unit × zz_S) := (if 0 ≤ y0 then (IN_fetch_114 x2 y0 st) else (zz_bd (ME_fail_f (9 : Int32) st) fun _ s_6 => (IN_fetch_114 x2 y0 s_6)))
def IN_fetch_f (x1 : Int32) (st : zz_S) : Option (Unit × zz_S) := (zz_bd (ME_read_f (x1 + (1 : Int32)) st) fun r_8 s_7 => (zz_nm (zz_sp s_7 14 (r_8 &&& (15 : Int32))) fun s_9 => (zz_bd (ME_read_f ((32 : Int32) + (zz_sg s_9 14)) s_9) fun r_11 s_10 => (zz_nm (zz_sp s_10 15 r_11) fun s_12 => (zz_bd (ME_read_f (zz_sg s_12 15) s_12) fun r_14 s_13 => (zz_bd (ME_read_f (x1 + (2 : Int32)) s_13) fun r_16 s_15 => (zz_nm (zz_sp s_15 16 r_16) fun s_17 => (zz_bd (FR_byteAt_f r_14 (zz_sg s_17 16) s_17) fun r_19 s_18 => (zz_nm (zz_sp s_18 17 r_19) fun s_20 => (if (46 : Int32) ≤ (zz_sg s_20 17) then (IN_fetch_100 r_14 (-1 : Int32) s_20) else (zz_nm (zz_sg s_20 17) fun v_21 => (zz_gd (zz_in v_21 46) (IN_fetch_100 r_14 (zc_tab v_21.toNatClampNeg) s_20)))))))))))))
set_option maxRecDepth 100000 in
set_option maxHeartbeats 4000000 in
theorem IN_fetch_122b_w {l : Launch} {D : va_G} {ad : Nat → Nat} {cA : Nat → ClassId} {tb : Nat} {E : zz_E} (hV : zz_ok (zc_V l D ad cA tb)) (h : zz_X (zc_V l D ad cA tb) E "FrameProcessor$Instruction" prog_3_method_2_code 5 zt_T 2 45 none) {k122 : Int32 → Int32 → Int32 → zz_S → Option (Unit × zz_S)} (hk122 : ∀ (x2 : Int32) (x3 : Int32) (x4 : Int32) (st : zz_S), zz_Z (zc_V l D ad cA tb) E 5 0 0 (zz_q (zc_V l D ad cA tb) E zz_jv) (k122 x2 x3 x4 st) 122 [(0, .ref (ad 6)), (2, .int x2), (3, .int x3), (4, .int x4)] [] st) (x2 : Int32) (x3 : Int32) (x4 : Int32) (st : zz_S) : zz_Z (zc_V l D ad cA tb) E 5 0 0 (zz_q (zc_V l D ad cA tb) E zz_jv) (IN_fetch_122b k122 x2 x3 x4 st) 122 [(0, .ref (ad 6)), (2, .int x2), (3, .int x3), (4, .int x4)] [] st := by
  unfold IN_fetch_122b
  refine zz_iload h dIN_fetch_122 rfl ?_
  refine zz_iload_n h dIN_fetch_124 rfl ?_
  refine zz_icmp_gt h 162 dIN_fetch_125 rfl ?_ ?_
  · refine zz_aload_n h dIN_fetch_162 rfl ?_
    refine zz_aload_n h dIN_fetch_163 rfl ?_
    refine zc_g_IN_first h zi_IN zf_IN_34 dIN_fetch_164 ?_
    refine zz_iconst (v := 1) h dIN_fetch_167 zz_li_1 ?_
    refine zz_iadd h dIN_fetch_168 ?_
    refine zz_iload_n h dIN_fetch_169 rfl ?_
    refine zz_iadd h dIN_fetch_170 ?_
    refine zc_p_IN_next h zi_IN zf_IN_55 dIN_fetch_171 (fun s_1 => ?_)
    exact zz_vret h dIN_fetch_174
  · refine zz_aload_n h dIN_fetch_128 rfl ?_
    refine zz_aload_n h dIN_fetch_129 rfl ?_
    refine zc_g_IN_operand h zi_IN zf_IN_52 dIN_fetch_130 ?_
    refine zz_sipush (v := 256) h dIN_fetch_133 zz_ls_256 ?_
    refine zz_imul h dIN_fetch_136 ?_
    refine zz_aload_n h dIN_fetch_137 rfl ?_
    refine zc_g_IN_frames h zi_IN zf_IN_15 dIN_fetch_138 ?_
    refine zz_iload_n h dIN_fetch_141 rfl ?_
    refine zz_aload_n h dIN_fetch_142 rfl ?_
    refine zc_g_IN_first h zi_IN zf_IN_34 dIN_fetch_143 ?_
    refine zz_iload h dIN_fetch_146 rfl ?_
    refine zz_iadd h dIN_fetch_148 ?_
    refine zz_callV2i h 4 rfl rfl (FR_byteAt_c hV _ _ _) FR_byteAt_k zm_IN_37 rfl rfl ⟨Nat.le_of_ble_eq_true rfl, Nat.le_of_ble_eq_true rfl⟩ (Nat.le_of_ble_eq_true rfl) dIN_fetch_149 (fun r_3 s_2 => ?_)
    refine zz_iadd h dIN_fetch_152 ?_
    refine zc_p_IN_operand h zi_IN zf_IN_52 dIN_fetch_153 (fun s_4 => ?_)
    refine zz_iinc h (1 : Int32) dIN_fetch_156 zz_li_1 rfl (Nat.le_of_ble_eq_true rfl) ?_
    refine zz_goto h 122 dIN_fetch_159 rfl ?_
    exact zz_sub (hk122 _ _ _ _) rfl
theorem IN_fetch_122_w {l : Launch} {D : va_G} {ad : Nat → Nat} {cA : Nat → ClassId} {tb : Nat} {E : zz_E} (hV : zz_ok (zc_V l D ad cA tb)) (h : zz_X (zc_V l D ad cA tb) E "FrameProcessor$Instruction" prog_3_method_2_code 5 zt_T 2 45 none) : ∀ (n : Nat) (x2 : Int32) (x3 : Int32) (x4 : Int32) (st : zz_S), zz_Z (zc_V l D ad cA tb) E 5 0 0 (zz_q (zc_V l D ad cA tb) E zz_jv) (IN_fetch_122 n x2 x3 x4 st) 122 [(0, .ref (ad 6)), (2, .int x2), (3, .int x3), (4, .int x4)] [] st
  | 0, _, _, _, _ => zz_none
  | n + 1, x2, x3, x4, st => IN_fetch_122b_w hV h (IN_fetch_122_w hV h n) x2 x3 x4 st
set_option maxRecDepth 100000 in
set_option maxHeartbeats 4000000 in
theorem IN_fetch_114_w {l : Launch} {D : va_G} {ad : Nat → Nat} {cA : Nat → ClassId} {tb : Nat} {E : zz_E} (hV : zz_ok (zc_V l D ad cA tb)) (h : zz_X (zc_V l D ad cA tb) E "FrameProcessor$Instruction" prog_3_method_2_code 5 zt_T 2 45 none) (x2 : Int32) (x3 : Int32) (st : zz_S) : zz_Z (zc_V l D ad cA tb) E 5 0 0 (zz_q (zc_V l D ad cA tb) E zz_jv) (IN_fetch_114 x2 x3 st) 114 [(0, .ref (ad 6)), (2, .int x2), (3, .int x3)] [] st := by
  unfold IN_fetch_114
  refine zz_aload_n h dIN_fetch_114 rfl ?_
  refine zz_iconst (v := 0) h dIN_fetch_115 zz_li_0 ?_
  refine zc_p_IN_operand h zi_IN zf_IN_52 dIN_fetch_116 (fun s_5 => ?_)
  refine zz_iconst (v := 1) h dIN_fetch_119 zz_li_1 ?_
  refine zz_istore h dIN_fetch_120 (Nat.le_of_ble_eq_true rfl) ?_
  exact zz_sub (IN_fetch_122_w hV h _ _ _ _ _) rfl
set_option maxRecDepth 100000 in
set_option maxHeartbeats 4000000 in
theorem IN_fetch_100_w {l : Launch} {D : va_G} {ad : Nat → Nat} {cA : Nat → ClassId} {tb : Nat} {E : zz_E} (hV : zz_ok (zc_V l D ad cA tb)) (h : zz_X (zc_V l D ad cA tb) E "FrameProcessor$Instruction" prog_3_method_2_code 5 zt_T 2 45 none) (x2 : Int32) (y0 : Int32) (st : zz_S) : zz_Z (zc_V l D ad cA tb) E 5 0 0 (zz_q (zc_V l D ad cA tb) E zz_jv) (IN_fetch_100 x2 y0 st) 100 [(0, .ref (ad 6)), (2, .int x2)] [.int y0] st := by
  unfold IN_fetch_100
  refine zz_istore_n h dIN_fetch_100 (Nat.le_of_ble_eq_true rfl) ?_
  refine zz_iload_n h dIN_fetch_101 rfl ?_
  refine zz_if_ge h 114 dIN_fetch_102 rfl ?_ ?_
  · exact zz_sub (IN_fetch_114_w hV h _ _ _) rfl
  · refine zz_aload_n h dIN_fetch_105 rfl ?_
    refine zc_g_IN_memory h zi_IN zf_IN_9 dIN_fetch_106 ?_
    refine zz_bipush (v := 9) h dIN_fetch_109 zz_lb_9 ?_
    refine zz_callV1v h 1 rfl rfl (ME_fail_c hV _ _) ME_fail_k zm_IN_48 rfl rfl ⟨Nat.le_of_ble_eq_true rfl, Nat.le_of_ble_eq_true rfl⟩ (Nat.le_of_ble_eq_true rfl) dIN_fetch_111 (fun _ s_6 => ?_)
    exact zz_sub (IN_fetch_114_w hV h _ _ _) rfl
set_option maxRecDepth 100000 in
set_option maxHeartbeats 4000000 in
theorem IN_fetch_w {l : Launch} {D : va_G} {ad : Nat → Nat} {cA : Nat → ClassId} {tb : Nat} {E : zz_E} (hV : zz_ok (zc_V l D ad cA tb)) (h : zz_X (zc_V l D ad cA tb) E "FrameProcessor$Instruction" prog_3_method_2_code 5 zt_T 2 45 none) (x1 : Int32) (st : zz_S) : zz_Z (zc_V l D ad cA tb) E 5 0 0 (zz_q (zc_V l D ad cA tb) E zz_jv) (IN_fetch_f x1 st) 0 [(0, .ref (ad 6)), (1, .int x1)] [] st := by
  unfold IN_fetch_f
  refine zz_aload_n h dIN_fetch_0 rfl ?_
  refine zz_aload_n h dIN_fetch_1 rfl ?_
  refine zc_g_IN_memory h zi_IN zf_IN_9 dIN_fetch_2 ?_
  refine zz_iload_n h dIN_fetch_5 rfl ?_
  refine zz_iconst (v := 1) h dIN_fetch_6 zz_li_1 ?_
  refine zz_iadd h dIN_fetch_7 ?_
  refine zz_callV1i h 1 rfl rfl (ME_read_c hV _ _) ME_read_k zm_IN_21 rfl rfl ⟨Nat.le_of_ble_eq_true rfl, Nat.le_of_ble_eq_true rfl⟩ (Nat.le_of_ble_eq_true rfl) dIN_fetch_8 (fun r_8 s_7 => ?_)
  refine zz_bipush (v := 15) h dIN_fetch_11 zz_lb_15 ?_
  refine zz_iand h dIN_fetch_13 ?_
  refine zc_p_IN_g h zi_IN zf_IN_27 dIN_fetch_14 (fun s_9 => ?_)
  refine zz_aload_n h dIN_fetch_17 rfl ?_
  refine zz_aload_n h dIN_fetch_18 rfl ?_
  refine zc_g_IN_memory h zi_IN zf_IN_9 dIN_fetch_19 ?_
  refine zz_bipush (v := 32) h dIN_fetch_22 zz_lb_32 ?_
  refine zz_aload_n h dIN_fetch_24 rfl ?_
  refine zc_g_IN_g h zi_IN zf_IN_27 dIN_fetch_25 ?_
  refine zz_iadd h dIN_fetch_28 ?_
  refine zz_callV1i h 1 rfl rfl (ME_read_c hV _ _) ME_read_k zm_IN_21 rfl rfl ⟨Nat.le_of_ble_eq_true rfl, Nat.le_of_ble_eq_true rfl⟩ (Nat.le_of_ble_eq_true rfl) dIN_fetch_29 (fun r_11 s_10 => ?_)
  refine zc_p_IN_globalFrame h zi_IN zf_IN_31 dIN_fetch_32 (fun s_12 => ?_)
  refine zz_aload_n h dIN_fetch_35 rfl ?_
  refine zc_g_IN_memory h zi_IN zf_IN_9 dIN_fetch_36 ?_
  refine zz_aload_n h dIN_fetch_39 rfl ?_
  refine zc_g_IN_globalFrame h zi_IN zf_IN_31 dIN_fetch_40 ?_
  refine zz_callV1i h 1 rfl rfl (ME_read_c hV _ _) ME_read_k zm_IN_21 rfl rfl ⟨Nat.le_of_ble_eq_true rfl, Nat.le_of_ble_eq_true rfl⟩ (Nat.le_of_ble_eq_true rfl) dIN_fetch_43 (fun r_14 s_13 => ?_)
  refine zz_istore_n h dIN_fetch_46 (Nat.le_of_ble_eq_true rfl) ?_
  refine zz_aload_n h dIN_fetch_47 rfl ?_
  refine zz_aload_n h dIN_fetch_48 rfl ?_
  refine zc_g_IN_memory h zi_IN zf_IN_9 dIN_fetch_49 ?_
  refine zz_iload_n h dIN_fetch_52 rfl ?_
  refine zz_iconst (v := 2) h dIN_fetch_53 zz_li_2 ?_
  refine zz_iadd h dIN_fetch_54 ?_
  refine zz_callV1i h 1 rfl rfl (ME_read_c hV _ _) ME_read_k zm_IN_21 rfl rfl ⟨Nat.le_of_ble_eq_true rfl, Nat.le_of_ble_eq_true rfl⟩ (Nat.le_of_ble_eq_true rfl) dIN_fetch_55 (fun r_16 s_15 => ?_)
  refine zc_p_IN_first h zi_IN zf_IN_34 dIN_fetch_58 (fun s_17 => ?_)
  refine zz_aload_n h dIN_fetch_61 rfl ?_
  refine zz_aload_n h dIN_fetch_62 rfl ?_
  refine zc_g_IN_frames h zi_IN zf_IN_15 dIN_fetch_63 ?_
  refine zz_iload_n h dIN_fetch_66 rfl ?_
  refine zz_aload_n h dIN_fetch_67 rfl ?_
  refine zc_g_IN_first h zi_IN zf_IN_34 dIN_fetch_68 ?_
  refine zz_callV2i h 4 rfl rfl (FR_byteAt_c hV _ _ _) FR_byteAt_k zm_IN_37 rfl rfl ⟨Nat.le_of_ble_eq_true rfl, Nat.le_of_ble_eq_true rfl⟩ (Nat.le_of_ble_eq_true rfl) dIN_fetch_71 (fun r_19 s_18 => ?_)
  refine zc_p_IN_code h zi_IN zf_IN_41 dIN_fetch_74 (fun s_20 => ?_)
  refine zz_aload_n h dIN_fetch_77 rfl ?_
  refine zc_g_IN_code h zi_IN zf_IN_41 dIN_fetch_78 ?_
  refine zc_tget h zf_IN_44 dIN_fetch_81 ?_
  refine zc_tlen h dIN_fetch_84 ?_
  refine zz_icmp_ge h 99 dIN_fetch_85 rfl ?_ ?_
  · refine zz_iconst (v := -1) h dIN_fetch_99 zz_li_m1 ?_
    exact zz_sub (IN_fetch_100_w hV h _ _ _) rfl
  · refine zc_tget h zf_IN_44 dIN_fetch_88 ?_
    refine zz_aload_n h dIN_fetch_91 rfl ?_
    refine zc_g_IN_code h zi_IN zf_IN_41 dIN_fetch_92 ?_
    refine zz_topi (fun v_21 => ?_)
    refine zc_tld h dIN_fetch_95 ?_
    refine zz_goto h 100 dIN_fetch_96 rfl ?_
    exact zz_sub (IN_fetch_100_w hV h _ _ _) rfl
theorem IN_fetch_c {l : Launch} {D : va_G} {ad : Nat → Nat} {cA : Nat → ClassId} {tb : Nat} (hV : zz_ok (zc_V l D ad cA tb)) (x1 : Int32) (st : zz_S) : zz_C (zc_V l D ad cA tb) yIN_fetch (Cond.code yIN_fetch prog_3_method_2_code 5 none :: zt_T) { frames := 2, cells := 0, slots := 0, locals := 45 } zz_jv [.ref (ad 6), .int x1] st (IN_fetch_f x1 st) := zz_met hV (by decide +kernel) rfl (Nat.le_of_ble_eq_true rfl) rfl (fun E h => IN_fetch_w hV h x1 st)
def WS_push_f (x1 : Int32) (st : zz_S) : Option (Unit × zz_S) := (if (9 : Int32) ≤ (zz_sg st 13) then (some ((), st)) else (zz_nm (zz_sg st 13) fun v_1 => (zz_gd (zz_in v_1 9) (zz_nm (zz_ap st 6 v_1.toNatClampNeg (x1 &&& (65535 : Int32))) fun s_2 => (zz_nm (zz_sp s_2 13 ((zz_sg s_2 13) + (1 : Int32))) fun s_3 => (some ((), s_3)))))))
set_option maxRecDepth 100000 in
set_option maxHeartbeats 4000000 in
theorem WS_push_w {l : Launch} {D : va_G} {ad : Nat → Nat} {cA : Nat → ClassId} {tb : Nat} {E : zz_E} (hV : zz_ok (zc_V l D ad cA tb)) (h : zz_X (zc_V l D ad cA tb) E "FrameProcessor$WorkStack" prog_8_method_5_code 2 zt_T 0 0 none) (x1 : Int32) (st : zz_S) : zz_Z (zc_V l D ad cA tb) E 2 0 0 (zz_q (zc_V l D ad cA tb) E zz_jv) (WS_push_f x1 st) 0 [(0, .ref (ad 5)), (1, .int x1)] [] st := by
  unfold WS_push_f
  refine zz_aload_n h dWS_push_0 rfl ?_
  refine zc_g_WS_depth h zi_WS zf_WS_25 dWS_push_1 ?_
  refine zz_bipush (v := 9) h dWS_push_4 zz_lb_9 ?_
  refine zz_icmp_ge h 32 dWS_push_6 rfl ?_ ?_
  · exact zz_vret h dWS_push_32
  · refine zz_aload_n h dWS_push_9 rfl ?_
    refine zc_g_WS_words h zi_WS zf_WS_13 dWS_push_10 ?_
    refine zz_aload_n h dWS_push_13 rfl ?_
    refine zc_g_WS_depth h zi_WS zf_WS_25 dWS_push_14 ?_
    refine zz_iload_n h dWS_push_17 rfl ?_
    refine zz_ldc (v := 65535) h dWS_push_18 zc_WS_27 ?_
    refine zz_iand h dWS_push_20 ?_
    refine zz_top2 (fun v_1 => ?_)
    refine zc_st_14 h dWS_push_21 (fun s_2 => ?_)
    refine zz_aload_n h dWS_push_22 rfl ?_
    refine zz_dup h dWS_push_23 rfl ?_
    refine zc_g_WS_depth h zi_WS zf_WS_25 dWS_push_24 ?_
    refine zz_iconst (v := 1) h dWS_push_27 zz_li_1 ?_
    refine zz_iadd h dWS_push_28 ?_
    refine zc_p_WS_depth h zi_WS zf_WS_25 dWS_push_29 (fun s_3 => ?_)
    exact zz_vret h dWS_push_32
theorem WS_push_c {l : Launch} {D : va_G} {ad : Nat → Nat} {cA : Nat → ClassId} {tb : Nat} (hV : zz_ok (zc_V l D ad cA tb)) (x1 : Int32) (st : zz_S) : zz_C (zc_V l D ad cA tb) yWS_push (Cond.code yWS_push prog_8_method_5_code 2 none :: zt_T) { frames := 0, cells := 0, slots := 0, locals := 0 } zz_jv [.ref (ad 5), .int x1] st (WS_push_f x1 st) := zz_met hV (by decide +kernel) rfl (Nat.le_of_ble_eq_true rfl) rfl (fun E h => WS_push_w hV h x1 st)
def WS_pop_f (st : zz_S) : Option (Int32 × zz_S) := (if (zz_sg st 13) = 0 then (zz_bd (ME_fail_f (5 : Int32) st) fun _ s_1 => (some ((0 : Int32), s_1))) else (zz_nm (zz_sp st 13 ((zz_sg st 13) - (1 : Int32))) fun s_2 => (zz_nm (zz_sg s_2 13) fun v_3 => (zz_gd (zz_in v_3 9) (some ((zz_ag s_2 6 v_3.toNatClampNeg), s_2))))))
set_option maxRecDepth 100000 in
set_option maxHeartbeats 4000000 in
theorem WS_pop_w {l : Launch} {D : va_G} {ad : Nat → Nat} {cA : Nat → ClassId} {tb : Nat} {E : zz_E} (hV : zz_ok (zc_V l D ad cA tb)) (h : zz_X (zc_V l D ad cA tb) E "FrameProcessor$WorkStack" prog_8_method_6_code 1 zt_T 1 21 (some .int)) (st : zz_S) : zz_Z (zc_V l D ad cA tb) E 1 0 0 (zz_q (zc_V l D ad cA tb) E zz_ji) (WS_pop_f  st) 0 [(0, .ref (ad 5))] [] st := by
  unfold WS_pop_f
  refine zz_aload_n h dWS_pop_0 rfl ?_
  refine zc_g_WS_depth h zi_WS zf_WS_25 dWS_pop_1 ?_
  refine zz_if_ne h 17 dWS_pop_4 rfl ?_ ?_
  · refine zz_aload_n h dWS_pop_7 rfl ?_
    refine zc_g_WS_memory h zi_WS zf_WS_17 dWS_pop_8 ?_
    refine zz_iconst (v := 5) h dWS_pop_11 zz_li_5 ?_
    refine zz_callV1v h 1 rfl rfl (ME_fail_c hV _ _) ME_fail_k zm_WS_28 rfl rfl ⟨Nat.le_of_ble_eq_true rfl, Nat.le_of_ble_eq_true rfl⟩ (Nat.le_of_ble_eq_true rfl) dWS_pop_12 (fun _ s_1 => ?_)
    refine zz_iconst (v := 0) h dWS_pop_15 zz_li_0 ?_
    exact zz_iret h dWS_pop_16
  · refine zz_aload_n h dWS_pop_17 rfl ?_
    refine zz_dup h dWS_pop_18 rfl ?_
    refine zc_g_WS_depth h zi_WS zf_WS_25 dWS_pop_19 ?_
    refine zz_iconst (v := 1) h dWS_pop_22 zz_li_1 ?_
    refine zz_isub h dWS_pop_23 ?_
    refine zc_p_WS_depth h zi_WS zf_WS_25 dWS_pop_24 (fun s_2 => ?_)
    refine zz_aload_n h dWS_pop_27 rfl ?_
    refine zc_g_WS_words h zi_WS zf_WS_13 dWS_pop_28 ?_
    refine zz_aload_n h dWS_pop_31 rfl ?_
    refine zc_g_WS_depth h zi_WS zf_WS_25 dWS_pop_32 ?_
    refine zz_topi (fun v_3 => ?_)
    refine zc_ld_14 h dWS_pop_35 ?_
    exact zz_iret h dWS_pop_36
theorem WS_pop_c {l : Launch} {D : va_G} {ad : Nat → Nat} {cA : Nat → ClassId} {tb : Nat} (hV : zz_ok (zc_V l D ad cA tb)) (st : zz_S) : zz_C (zc_V l D ad cA tb) yWS_pop (Cond.code yWS_pop prog_8_method_6_code 1 (some .int) :: zt_T) { frames := 1, cells := 0, slots := 0, locals := 21 } zz_ji [.ref (ad 5)] st (WS_pop_f  st) := zz_met hV (by decide +kernel) rfl (Nat.le_of_ble_eq_true rfl) rfl (fun E h => WS_pop_w hV h  st)
def PR_move_f (st : zz_S) : Option (Unit × zz_S) := (zz_nm (zz_sg st 18) fun v_1 => (zz_nm (zz_sg st 17) fun v_2 => (if v_2 = (1 : Int32) then (zz_bd (WS_push_f v_1 st) fun _ s_4 => (some ((), s_4))) else (if v_2 = (2 : Int32) then (zz_bd (WS_push_f v_1 st) fun _ s_6 => (some ((), s_6))) else (if v_2 = (3 : Int32) then (zz_bd (ME_read_f (((zz_sg st 3) + (4 : Int32)) + v_1) st) fun r_9 s_8 => (zz_bd (WS_push_f r_9 s_8) fun _ s_10 => (some ((), s_10)))) else (if v_2 = (4 : Int32) then (zz_bd (WS_pop_f st) fun r_13 s_12 => (zz_bd (ME_write_f (((zz_sg st 3) + (4 : Int32)) + v_1) r_13 s_12) fun _ s_14 => (some ((), s_14)))) else (if v_2 = (5 : Int32) then (zz_bd (ME_read_f (((zz_sg st 15) + (1 : Int32)) + v_1) st) fun r_17 s_16 => (zz_bd (WS_push_f r_17 s_16) fun _ s_18 => (some ((), s_18)))) else (if v_2 = (6 : Int32) then (zz_bd (WS_pop_f st) fun r_21 s_20 => (zz_bd (ME_write_f (((zz_sg st 15) + (1 : Int32)) + v_1) r_21 s_20) fun _ s_22 => (some ((), s_22)))) else (if v_2 = (7 : Int32) then (zz_bd (WS_pop_f st) fun r_25 s_24 => (zz_bd (ME_read_f (r_25 + v_1) s_24) fun r_27 s_26 => (zz_bd (WS_push_f r_27 s_26) fun _ s_28 => (some ((), s_28))))) else (if v_2 = (8 : Int32) then (zz_bd (WS_pop_f st) fun r_31 s_30 => (zz_nm (r_31 + v_1) fun v_32 => (zz_bd (WS_pop_f s_30) fun r_34 s_33 => (zz_bd (ME_write_f v_32 r_34 s_33) fun _ s_35 => (some ((), s_35)))))) else (some ((), st))))))))))))
set_option maxRecDepth 100000 in
set_option maxHeartbeats 4000000 in
theorem PR_move_w {l : Launch} {D : va_G} {ad : Nat → Nat} {cA : Nat → ClassId} {tb : Nat} {E : zz_E} (hV : zz_ok (zc_V l D ad cA tb)) (h : zz_X (zc_V l D ad cA tb) E "FrameProcessor$Processor" prog_5_method_8_code 3 zt_T 2 41 none) (st : zz_S) : zz_Z (zc_V l D ad cA tb) E 3 0 0 (zz_q (zc_V l D ad cA tb) E zz_jv) (PR_move_f  st) 0 [(0, .ref (ad 3))] [] st := by
  unfold PR_move_f
  refine zz_aload_n h dPR_move_0 rfl ?_
  refine zc_g_PR_instruction h zi_PR zf_PR_40 dPR_move_1 ?_
  refine zc_g_IN_operand h zi_IN zf_PR_190 dPR_move_4 ?_
  refine zz_topi (fun v_1 => ?_)
  refine zz_istore_n h dPR_move_7 (Nat.le_of_ble_eq_true rfl) ?_
  refine zz_aload_n h dPR_move_8 rfl ?_
  refine zc_g_PR_instruction h zi_PR zf_PR_40 dPR_move_9 ?_
  refine zc_g_IN_code h zi_IN zf_PR_92 dPR_move_12 ?_
  refine zz_topi (fun v_2 => ?_)
  refine zz_ite (fun c_3 => ?_) (fun c_3 => ?_)
  · refine zz_table (off := 45) h 60 dPR_move_15 c_3 (by decide) (by decide) (by decide) rfl ?_
    refine zz_aload_n h dPR_move_60 rfl ?_
    refine zc_g_PR_stack h zi_PR zf_PR_31 dPR_move_61 ?_
    refine zz_iload_n h dPR_move_64 rfl ?_
    refine zz_callV1v h 5 rfl rfl (WS_push_c hV _ _) WS_push_k zm_PR_193 rfl rfl ⟨Nat.le_of_ble_eq_true rfl, Nat.le_of_ble_eq_true rfl⟩ (Nat.le_of_ble_eq_true rfl) dPR_move_65 (fun _ s_4 => ?_)
    refine zz_goto h 231 dPR_move_68 rfl ?_
    exact zz_vret h dPR_move_231
  refine zz_ite (fun c_5 => ?_) (fun c_5 => ?_)
  · refine zz_table (off := 45) h 60 dPR_move_15 c_5 (by decide) (by decide) (by decide) rfl ?_
    refine zz_aload_n h dPR_move_60 rfl ?_
    refine zc_g_PR_stack h zi_PR zf_PR_31 dPR_move_61 ?_
    refine zz_iload_n h dPR_move_64 rfl ?_
    refine zz_callV1v h 5 rfl rfl (WS_push_c hV _ _) WS_push_k zm_PR_193 rfl rfl ⟨Nat.le_of_ble_eq_true rfl, Nat.le_of_ble_eq_true rfl⟩ (Nat.le_of_ble_eq_true rfl) dPR_move_65 (fun _ s_6 => ?_)
    refine zz_goto h 231 dPR_move_68 rfl ?_
    exact zz_vret h dPR_move_231
  refine zz_ite (fun c_7 => ?_) (fun c_7 => ?_)
  · refine zz_table (off := 56) h 71 dPR_move_15 c_7 (by decide) (by decide) (by decide) rfl ?_
    refine zz_aload_n h dPR_move_71 rfl ?_
    refine zc_g_PR_stack h zi_PR zf_PR_31 dPR_move_72 ?_
    refine zz_aload_n h dPR_move_75 rfl ?_
    refine zc_g_PR_memory h zi_PR zf_PR_9 dPR_move_76 ?_
    refine zz_aload_n h dPR_move_79 rfl ?_
    refine zc_g_PR_frame h zi_PR zf_PR_85 dPR_move_80 ?_
    refine zz_iconst (v := 4) h dPR_move_83 zz_li_4 ?_
    refine zz_iadd h dPR_move_84 ?_
    refine zz_iload_n h dPR_move_85 rfl ?_
    refine zz_iadd h dPR_move_86 ?_
    refine zz_callV1i h 1 rfl rfl (ME_read_c hV _ _) ME_read_k zm_PR_196 rfl rfl ⟨Nat.le_of_ble_eq_true rfl, Nat.le_of_ble_eq_true rfl⟩ (Nat.le_of_ble_eq_true rfl) dPR_move_87 (fun r_9 s_8 => ?_)
    refine zz_callV1v h 5 rfl rfl (WS_push_c hV _ _) WS_push_k zm_PR_193 rfl rfl ⟨Nat.le_of_ble_eq_true rfl, Nat.le_of_ble_eq_true rfl⟩ (Nat.le_of_ble_eq_true rfl) dPR_move_90 (fun _ s_10 => ?_)
    refine zz_goto h 231 dPR_move_93 rfl ?_
    exact zz_vret h dPR_move_231
  refine zz_ite (fun c_11 => ?_) (fun c_11 => ?_)
  · refine zz_table (off := 81) h 96 dPR_move_15 c_11 (by decide) (by decide) (by decide) rfl ?_
    refine zz_aload_n h dPR_move_96 rfl ?_
    refine zc_g_PR_memory h zi_PR zf_PR_9 dPR_move_97 ?_
    refine zz_aload_n h dPR_move_100 rfl ?_
    refine zc_g_PR_frame h zi_PR zf_PR_85 dPR_move_101 ?_
    refine zz_iconst (v := 4) h dPR_move_104 zz_li_4 ?_
    refine zz_iadd h dPR_move_105 ?_
    refine zz_iload_n h dPR_move_106 rfl ?_
    refine zz_iadd h dPR_move_107 ?_
    refine zz_aload_n h dPR_move_108 rfl ?_
    refine zc_g_PR_stack h zi_PR zf_PR_31 dPR_move_109 ?_
    refine zz_callV0i h 5 rfl rfl (WS_pop_c hV _) WS_pop_k zm_PR_200 rfl rfl ⟨Nat.le_of_ble_eq_true rfl, Nat.le_of_ble_eq_true rfl⟩ (Nat.le_of_ble_eq_true rfl) dPR_move_112 (fun r_13 s_12 => ?_)
    refine zz_callV2v h 1 rfl rfl (ME_write_c hV _ _ _) ME_write_k zm_PR_162 rfl rfl ⟨Nat.le_of_ble_eq_true rfl, Nat.le_of_ble_eq_true rfl⟩ (Nat.le_of_ble_eq_true rfl) dPR_move_115 (fun _ s_14 => ?_)
    refine zz_goto h 231 dPR_move_118 rfl ?_
    exact zz_vret h dPR_move_231
  refine zz_ite (fun c_15 => ?_) (fun c_15 => ?_)
  · refine zz_table (off := 106) h 121 dPR_move_15 c_15 (by decide) (by decide) (by decide) rfl ?_
    refine zz_aload_n h dPR_move_121 rfl ?_
    refine zc_g_PR_stack h zi_PR zf_PR_31 dPR_move_122 ?_
    refine zz_aload_n h dPR_move_125 rfl ?_
    refine zc_g_PR_memory h zi_PR zf_PR_9 dPR_move_126 ?_
    refine zz_aload_n h dPR_move_129 rfl ?_
    refine zc_g_PR_instruction h zi_PR zf_PR_40 dPR_move_130 ?_
    refine zc_g_IN_globalFrame h zi_IN zf_PR_203 dPR_move_133 ?_
    refine zz_iconst (v := 1) h dPR_move_136 zz_li_1 ?_
    refine zz_iadd h dPR_move_137 ?_
    refine zz_iload_n h dPR_move_138 rfl ?_
    refine zz_iadd h dPR_move_139 ?_
    refine zz_callV1i h 1 rfl rfl (ME_read_c hV _ _) ME_read_k zm_PR_196 rfl rfl ⟨Nat.le_of_ble_eq_true rfl, Nat.le_of_ble_eq_true rfl⟩ (Nat.le_of_ble_eq_true rfl) dPR_move_140 (fun r_17 s_16 => ?_)
    refine zz_callV1v h 5 rfl rfl (WS_push_c hV _ _) WS_push_k zm_PR_193 rfl rfl ⟨Nat.le_of_ble_eq_true rfl, Nat.le_of_ble_eq_true rfl⟩ (Nat.le_of_ble_eq_true rfl) dPR_move_143 (fun _ s_18 => ?_)
    refine zz_goto h 231 dPR_move_146 rfl ?_
    exact zz_vret h dPR_move_231
  refine zz_ite (fun c_19 => ?_) (fun c_19 => ?_)
  · refine zz_table (off := 134) h 149 dPR_move_15 c_19 (by decide) (by decide) (by decide) rfl ?_
    refine zz_aload_n h dPR_move_149 rfl ?_
    refine zc_g_PR_memory h zi_PR zf_PR_9 dPR_move_150 ?_
    refine zz_aload_n h dPR_move_153 rfl ?_
    refine zc_g_PR_instruction h zi_PR zf_PR_40 dPR_move_154 ?_
    refine zc_g_IN_globalFrame h zi_IN zf_PR_203 dPR_move_157 ?_
    refine zz_iconst (v := 1) h dPR_move_160 zz_li_1 ?_
    refine zz_iadd h dPR_move_161 ?_
    refine zz_iload_n h dPR_move_162 rfl ?_
    refine zz_iadd h dPR_move_163 ?_
    refine zz_aload_n h dPR_move_164 rfl ?_
    refine zc_g_PR_stack h zi_PR zf_PR_31 dPR_move_165 ?_
    refine zz_callV0i h 5 rfl rfl (WS_pop_c hV _) WS_pop_k zm_PR_200 rfl rfl ⟨Nat.le_of_ble_eq_true rfl, Nat.le_of_ble_eq_true rfl⟩ (Nat.le_of_ble_eq_true rfl) dPR_move_168 (fun r_21 s_20 => ?_)
    refine zz_callV2v h 1 rfl rfl (ME_write_c hV _ _ _) ME_write_k zm_PR_162 rfl rfl ⟨Nat.le_of_ble_eq_true rfl, Nat.le_of_ble_eq_true rfl⟩ (Nat.le_of_ble_eq_true rfl) dPR_move_171 (fun _ s_22 => ?_)
    refine zz_goto h 231 dPR_move_174 rfl ?_
    exact zz_vret h dPR_move_231
  refine zz_ite (fun c_23 => ?_) (fun c_23 => ?_)
  · refine zz_table (off := 162) h 177 dPR_move_15 c_23 (by decide) (by decide) (by decide) rfl ?_
    refine zz_aload_n h dPR_move_177 rfl ?_
    refine zc_g_PR_stack h zi_PR zf_PR_31 dPR_move_178 ?_
    refine zz_aload_n h dPR_move_181 rfl ?_
    refine zc_g_PR_memory h zi_PR zf_PR_9 dPR_move_182 ?_
    refine zz_aload_n h dPR_move_185 rfl ?_
    refine zc_g_PR_stack h zi_PR zf_PR_31 dPR_move_186 ?_
    refine zz_callV0i h 5 rfl rfl (WS_pop_c hV _) WS_pop_k zm_PR_200 rfl rfl ⟨Nat.le_of_ble_eq_true rfl, Nat.le_of_ble_eq_true rfl⟩ (Nat.le_of_ble_eq_true rfl) dPR_move_189 (fun r_25 s_24 => ?_)
    refine zz_iload_n h dPR_move_192 rfl ?_
    refine zz_iadd h dPR_move_193 ?_
    refine zz_callV1i h 1 rfl rfl (ME_read_c hV _ _) ME_read_k zm_PR_196 rfl rfl ⟨Nat.le_of_ble_eq_true rfl, Nat.le_of_ble_eq_true rfl⟩ (Nat.le_of_ble_eq_true rfl) dPR_move_194 (fun r_27 s_26 => ?_)
    refine zz_callV1v h 5 rfl rfl (WS_push_c hV _ _) WS_push_k zm_PR_193 rfl rfl ⟨Nat.le_of_ble_eq_true rfl, Nat.le_of_ble_eq_true rfl⟩ (Nat.le_of_ble_eq_true rfl) dPR_move_197 (fun _ s_28 => ?_)
    refine zz_goto h 231 dPR_move_200 rfl ?_
    exact zz_vret h dPR_move_231
  refine zz_ite (fun c_29 => ?_) (fun c_29 => ?_)
  · refine zz_table (off := 188) h 203 dPR_move_15 c_29 (by decide) (by decide) (by decide) rfl ?_
    refine zz_aload_n h dPR_move_203 rfl ?_
    refine zc_g_PR_stack h zi_PR zf_PR_31 dPR_move_204 ?_
    refine zz_callV0i h 5 rfl rfl (WS_pop_c hV _) WS_pop_k zm_PR_200 rfl rfl ⟨Nat.le_of_ble_eq_true rfl, Nat.le_of_ble_eq_true rfl⟩ (Nat.le_of_ble_eq_true rfl) dPR_move_207 (fun r_31 s_30 => ?_)
    refine zz_iload_n h dPR_move_210 rfl ?_
    refine zz_iadd h dPR_move_211 ?_
    refine zz_topi (fun v_32 => ?_)
    refine zz_istore_n h dPR_move_212 (Nat.le_of_ble_eq_true rfl) ?_
    refine zz_aload_n h dPR_move_213 rfl ?_
    refine zc_g_PR_memory h zi_PR zf_PR_9 dPR_move_214 ?_
    refine zz_iload_n h dPR_move_217 rfl ?_
    refine zz_aload_n h dPR_move_218 rfl ?_
    refine zc_g_PR_stack h zi_PR zf_PR_31 dPR_move_219 ?_
    refine zz_callV0i h 5 rfl rfl (WS_pop_c hV _) WS_pop_k zm_PR_200 rfl rfl ⟨Nat.le_of_ble_eq_true rfl, Nat.le_of_ble_eq_true rfl⟩ (Nat.le_of_ble_eq_true rfl) dPR_move_222 (fun r_34 s_33 => ?_)
    refine zz_callV2v h 1 rfl rfl (ME_write_c hV _ _ _) ME_write_k zm_PR_162 rfl rfl ⟨Nat.le_of_ble_eq_true rfl, Nat.le_of_ble_eq_true rfl⟩ (Nat.le_of_ble_eq_true rfl) dPR_move_225 (fun _ s_35 => ?_)
    refine zz_goto h 231 dPR_move_228 rfl ?_
    exact zz_vret h dPR_move_231
  refine zz_tableD h 231 dPR_move_15 (by have z0 := lv_neT (a := 1) c_3 (by decide); have z1 := lv_neT (a := 2) c_5 (by decide); have z2 := lv_neT (a := 3) c_7 (by decide); have z3 := lv_neT (a := 4) c_11 (by decide); have z4 := lv_neT (a := 5) c_15 (by decide); have z5 := lv_neT (a := 6) c_19 (by decide); have z6 := lv_neT (a := 7) c_23 (by decide); have z7 := lv_neT (a := 8) c_29 (by decide); omega) rfl ?_
  exact zz_vret h dPR_move_231
theorem PR_move_c {l : Launch} {D : va_G} {ad : Nat → Nat} {cA : Nat → ClassId} {tb : Nat} (hV : zz_ok (zc_V l D ad cA tb)) (st : zz_S) : zz_C (zc_V l D ad cA tb) yPR_move (Cond.code yPR_move prog_5_method_8_code 3 none :: zt_T) { frames := 2, cells := 0, slots := 0, locals := 41 } zz_jv [.ref (ad 3)] st (PR_move_f  st) := zz_met hV (by decide +kernel) rfl (Nat.le_of_ble_eq_true rfl) rfl (fun E h => PR_move_w hV h  st)
