def RO_halt_f (t1 : Nat) (x2 : Int32) (st : zz_S) : Option (Unit × zz_S) := (zz_bd (RO_nextChange_f st) fun r_2 s_1 => (zz_bd (TA_enter_f t1 (4 : Int32) r_2 s_1) fun _ s_3 => (zz_nm (zz_ap s_3 13 t1 x2) fun s_4 => (some ((), s_4)))))
set_option maxRecDepth 100000 in
set_option maxHeartbeats 4000000 in
theorem RO_halt_w {l : Launch} {D : va_G} {ad : Nat → Nat} {cA : Nat → ClassId} {tb : Nat} {E : zz_E} (hV : zz_ok (zc_V l D ad cA tb)) (h : zz_X (zc_V l D ad cA tb) E "FrameProcessor$Roster" prog_6_method_10_code 3 zt_T 1 22 none) (t1 : Nat) (ht1 : t1 < 6) (x2 : Int32) (st : zz_S) : zz_Z (zc_V l D ad cA tb) E 3 0 0 (zz_q (zc_V l D ad cA tb) E zz_jv) (RO_halt_f t1 x2 st) 0 [(0, .ref (ad 2)), (1, .ref (ad (15 + t1))), (2, .int x2)] [] st := by
  unfold RO_halt_f
  refine zz_aload_n h dRO_halt_0 rfl ?_
  refine zz_iconst (v := 4) h dRO_halt_1 zz_li_4 ?_
  refine zz_aload_n h dRO_halt_2 rfl ?_
  refine zz_callV0i h 2 rfl rfl (RO_nextChange_c hV _) RO_nextChange_k zm_RO_41 rfl rfl ⟨Nat.le_of_ble_eq_true rfl, Nat.le_of_ble_eq_true rfl⟩ (Nat.le_of_ble_eq_true rfl) dRO_halt_3 (fun r_2 s_1 => ?_)
  refine zz_callV2v h (15 + t1) (zc_at ht1) rfl (TA_enter_c hV _ ht1 _ _ _) TA_enter_k zm_RO_45 rfl rfl ⟨Nat.le_of_ble_eq_true rfl, Nat.le_of_ble_eq_true rfl⟩ (Nat.le_of_ble_eq_true rfl) dRO_halt_6 (fun _ s_3 => ?_)
  refine zz_aload_n h dRO_halt_9 rfl ?_
  refine zz_iload_n h dRO_halt_10 rfl ?_
  refine zc_p_TA_fault ht1 h zi_TA zf_RO_62 dRO_halt_11 (fun s_4 => ?_)
  exact zz_vret h dRO_halt_14
theorem RO_halt_c {l : Launch} {D : va_G} {ad : Nat → Nat} {cA : Nat → ClassId} {tb : Nat} (hV : zz_ok (zc_V l D ad cA tb)) (t1 : Nat) (ht1 : t1 < 6) (x2 : Int32) (st : zz_S) : zz_C (zc_V l D ad cA tb) yRO_halt (Cond.code yRO_halt prog_6_method_10_code 3 none :: zt_T) { frames := 1, cells := 0, slots := 0, locals := 22 } zz_jv [.ref (ad 2), .ref (ad (15 + t1)), .int x2] st (RO_halt_f t1 x2 st) := zz_met hV (by decide +kernel) rfl (Nat.le_of_ble_eq_true rfl) rfl (fun E h => RO_halt_w hV h t1 ht1 x2 st)
def WS_saveTo_10b (k10 : Nat → Int32 → zz_S → Option (Unit × zz_S)) (t1 : Nat) (x2 : Int32) (st : zz_S) : Option (Unit × zz_S) := (if (zz_sg st 13) ≤ x2 then (some ((), st)) else (zz_gd (zz_in x2 9) (zz_gd (zz_in x2 8) (zz_nm (zz_ap st (20 + t1) x2.toNatClampNeg (zz_ag st 6 x2.toNatClampNeg)) fun s_1 => (k10 t1 (x2 + (1 : Int32)) s_1)))))
def WS_saveTo_10 : Nat → Nat → Int32 → zz_S → Option (Unit × zz_S)
  | 0 => fun _ _ _ => none
  | n + 1 => WS_saveTo_10b (WS_saveTo_10 n)
def WS_saveTo_f (t1 : Nat) (st : zz_S) : Option (Unit × zz_S) := (zz_nm (zz_ap st 10 t1 (zz_sg st 13)) fun s_2 => (WS_saveTo_10 10 t1 (0 : Int32) s_2))
set_option maxRecDepth 100000 in
set_option maxHeartbeats 4000000 in
theorem WS_saveTo_10b_w {l : Launch} {D : va_G} {ad : Nat → Nat} {cA : Nat → ClassId} {tb : Nat} {E : zz_E} (hV : zz_ok (zc_V l D ad cA tb)) (h : zz_X (zc_V l D ad cA tb) E "FrameProcessor$WorkStack" prog_8_method_4_code 3 zt_T 0 0 none) {k10 : Nat → Int32 → zz_S → Option (Unit × zz_S)} (hk10 : ∀ (t1 : Nat) (ht1 : t1 < 6) (x2 : Int32) (st : zz_S), zz_Z (zc_V l D ad cA tb) E 3 0 0 (zz_q (zc_V l D ad cA tb) E zz_jv) (k10 t1 x2 st) 10 [(0, .ref (ad 5)), (1, .ref (ad (15 + t1))), (2, .int x2)] [] st) (t1 : Nat) (ht1 : t1 < 6) (x2 : Int32) (st : zz_S) : zz_Z (zc_V l D ad cA tb) E 3 0 0 (zz_q (zc_V l D ad cA tb) E zz_jv) (WS_saveTo_10b k10 t1 x2 st) 10 [(0, .ref (ad 5)), (1, .ref (ad (15 + t1))), (2, .int x2)] [] st := by
  unfold WS_saveTo_10b
  refine zz_iload_n h dWS_saveTo_10 rfl ?_
  refine zz_aload_n h dWS_saveTo_11 rfl ?_
  refine zc_g_WS_depth h zi_WS zf_WS_25 dWS_saveTo_12 ?_
  refine zz_icmp_ge h 36 dWS_saveTo_15 rfl ?_ ?_
  · exact zz_vret h dWS_saveTo_36
  · refine zz_aload_n h dWS_saveTo_18 rfl ?_
    refine zc_g_TA_words ht1 h zi_TA zf_WS_26 dWS_saveTo_19 ?_
    refine zz_iload_n h dWS_saveTo_22 rfl ?_
    refine zz_aload_n h dWS_saveTo_23 rfl ?_
    refine zc_g_WS_words h zi_WS zf_WS_13 dWS_saveTo_24 ?_
    refine zz_iload_n h dWS_saveTo_27 rfl ?_
    refine zc_ld_14 h dWS_saveTo_28 ?_
    refine zc_stW ht1 h dWS_saveTo_29 (fun s_1 => ?_)
    refine zz_iinc h (1 : Int32) dWS_saveTo_30 zz_li_1 rfl (Nat.le_of_ble_eq_true rfl) ?_
    refine zz_goto h 10 dWS_saveTo_33 rfl ?_
    exact zz_sub (hk10 _ ht1 _ _) rfl
theorem WS_saveTo_10_w {l : Launch} {D : va_G} {ad : Nat → Nat} {cA : Nat → ClassId} {tb : Nat} {E : zz_E} (hV : zz_ok (zc_V l D ad cA tb)) (h : zz_X (zc_V l D ad cA tb) E "FrameProcessor$WorkStack" prog_8_method_4_code 3 zt_T 0 0 none) : ∀ (n : Nat) (t1 : Nat) (ht1 : t1 < 6) (x2 : Int32) (st : zz_S), zz_Z (zc_V l D ad cA tb) E 3 0 0 (zz_q (zc_V l D ad cA tb) E zz_jv) (WS_saveTo_10 n t1 x2 st) 10 [(0, .ref (ad 5)), (1, .ref (ad (15 + t1))), (2, .int x2)] [] st
  | 0, _, _, _, _ => zz_none
  | n + 1, t1, ht1, x2, st => WS_saveTo_10b_w hV h (WS_saveTo_10_w hV h n) t1 ht1 x2 st
set_option maxRecDepth 100000 in
set_option maxHeartbeats 4000000 in
theorem WS_saveTo_w {l : Launch} {D : va_G} {ad : Nat → Nat} {cA : Nat → ClassId} {tb : Nat} {E : zz_E} (hV : zz_ok (zc_V l D ad cA tb)) (h : zz_X (zc_V l D ad cA tb) E "FrameProcessor$WorkStack" prog_8_method_4_code 3 zt_T 0 0 none) (t1 : Nat) (ht1 : t1 < 6) (st : zz_S) : zz_Z (zc_V l D ad cA tb) E 3 0 0 (zz_q (zc_V l D ad cA tb) E zz_jv) (WS_saveTo_f t1 st) 0 [(0, .ref (ad 5)), (1, .ref (ad (15 + t1)))] [] st := by
  unfold WS_saveTo_f
  refine zz_aload_n h dWS_saveTo_0 rfl ?_
  refine zz_aload_n h dWS_saveTo_1 rfl ?_
  refine zc_g_WS_depth h zi_WS zf_WS_25 dWS_saveTo_2 ?_
  refine zc_p_TA_depth ht1 h zi_TA zf_WS_21 dWS_saveTo_5 (fun s_2 => ?_)
  refine zz_iconst (v := 0) h dWS_saveTo_8 zz_li_0 ?_
  refine zz_istore_n h dWS_saveTo_9 (Nat.le_of_ble_eq_true rfl) ?_
  exact zz_sub (WS_saveTo_10_w hV h _ _ ht1 _ _) rfl
theorem WS_saveTo_c {l : Launch} {D : va_G} {ad : Nat → Nat} {cA : Nat → ClassId} {tb : Nat} (hV : zz_ok (zc_V l D ad cA tb)) (t1 : Nat) (ht1 : t1 < 6) (st : zz_S) : zz_C (zc_V l D ad cA tb) yWS_saveTo (Cond.code yWS_saveTo prog_8_method_4_code 3 none :: zt_T) { frames := 0, cells := 0, slots := 0, locals := 0 } zz_jv [.ref (ad 5), .ref (ad (15 + t1))] st (WS_saveTo_f t1 st) := zz_met hV (by decide +kernel) rfl (Nat.le_of_ble_eq_true rfl) rfl (fun E h => WS_saveTo_w hV h t1 ht1 st)
def TA_clear_f (t0 : Nat) (st : zz_S) : Option (Unit × zz_S) := (zz_bd (TA_enter_f t0 (0 : Int32) (0 : Int32) st) fun _ s_1 => (zz_nm (zz_ap s_1 8 t0 (0 : Int32)) fun s_2 => (zz_nm (zz_ap s_2 9 t0 (0 : Int32)) fun s_3 => (zz_nm (zz_ap s_3 10 t0 (0 : Int32)) fun s_4 => (some ((), s_4))))))
set_option maxRecDepth 100000 in
set_option maxHeartbeats 4000000 in
theorem TA_clear_w {l : Launch} {D : va_G} {ad : Nat → Nat} {cA : Nat → ClassId} {tb : Nat} {E : zz_E} (hV : zz_ok (zc_V l D ad cA tb)) (h : zz_X (zc_V l D ad cA tb) E "FrameProcessor$Task" prog_7_method_2_code 1 zt_T 1 22 none) (t0 : Nat) (ht0 : t0 < 6) (st : zz_S) : zz_Z (zc_V l D ad cA tb) E 1 0 0 (zz_q (zc_V l D ad cA tb) E zz_jv) (TA_clear_f t0 st) 0 [(0, .ref (ad (15 + t0)))] [] st := by
  unfold TA_clear_f
  refine zz_aload_n h dTA_clear_0 rfl ?_
  refine zz_iconst (v := 0) h dTA_clear_1 zz_li_0 ?_
  refine zz_iconst (v := 0) h dTA_clear_2 zz_li_0 ?_
  refine zz_callV2v h (15 + t0) (zc_at ht0) rfl (TA_enter_c hV _ ht0 _ _ _) TA_enter_k zm_TA_22 rfl rfl ⟨Nat.le_of_ble_eq_true rfl, Nat.le_of_ble_eq_true rfl⟩ (Nat.le_of_ble_eq_true rfl) dTA_clear_3 (fun _ s_1 => ?_)
  refine zz_aload_n h dTA_clear_6 rfl ?_
  refine zz_iconst (v := 0) h dTA_clear_7 zz_li_0 ?_
  refine zc_p_TA_priority ht0 h zi_TA zf_TA_26 dTA_clear_8 (fun s_2 => ?_)
  refine zz_aload_n h dTA_clear_11 rfl ?_
  refine zz_iconst (v := 0) h dTA_clear_12 zz_li_0 ?_
  refine zc_p_TA_frame ht0 h zi_TA zf_TA_29 dTA_clear_13 (fun s_3 => ?_)
  refine zz_aload_n h dTA_clear_16 rfl ?_
  refine zz_iconst (v := 0) h dTA_clear_17 zz_li_0 ?_
  refine zc_p_TA_depth ht0 h zi_TA zf_TA_32 dTA_clear_18 (fun s_4 => ?_)
  exact zz_vret h dTA_clear_21
theorem TA_clear_c {l : Launch} {D : va_G} {ad : Nat → Nat} {cA : Nat → ClassId} {tb : Nat} (hV : zz_ok (zc_V l D ad cA tb)) (t0 : Nat) (ht0 : t0 < 6) (st : zz_S) : zz_C (zc_V l D ad cA tb) yTA_clear (Cond.code yTA_clear prog_7_method_2_code 1 none :: zt_T) { frames := 1, cells := 0, slots := 0, locals := 22 } zz_jv [.ref (ad (15 + t0))] st (TA_clear_f t0 st) := zz_met hV (by decide +kernel) rfl (Nat.le_of_ble_eq_true rfl) rfl (fun E h => TA_clear_w hV h t0 ht0 st)
def RO_wakeFirst_f (x1 : Int32) (x2 : Int32) (st : zz_S) : Option (Int32 × zz_S) := (zz_bd (RO_firstAt_f x1 x2 st) fun r_2 s_1 => (zz_oc r_2 (some ((-1 : Int32), s_1)) fun t_3 => zz_gd (Nat.blt t_3 6) (zz_bd (RO_makeReady_f t_3 s_1) fun _ s_5 => (some ((Int32.ofNat t_3), s_5)))))
set_option maxRecDepth 100000 in
set_option maxHeartbeats 4000000 in
theorem RO_wakeFirst_w {l : Launch} {D : va_G} {ad : Nat → Nat} {cA : Nat → ClassId} {tb : Nat} {E : zz_E} (hV : zz_ok (zc_V l D ad cA tb)) (h : zz_X (zc_V l D ad cA tb) E "FrameProcessor$Roster" prog_6_method_13_code 4 zt_T 2 47 (some .int)) (x1 : Int32) (x2 : Int32) (st : zz_S) : zz_Z (zc_V l D ad cA tb) E 4 0 0 (zz_q (zc_V l D ad cA tb) E zz_ji) (RO_wakeFirst_f x1 x2 st) 0 [(0, .ref (ad 2)), (1, .int x1), (2, .int x2)] [] st := by
  unfold RO_wakeFirst_f
  refine zz_aload_n h dRO_wakeFirst_0 rfl ?_
  refine zz_iload_n h dRO_wakeFirst_1 rfl ?_
  refine zz_iload_n h dRO_wakeFirst_2 rfl ?_
  refine zz_callV2q h 2 rfl rfl (RO_firstAt_c hV _ _ _) RO_firstAt_k zm_RO_24 rfl rfl ⟨Nat.le_of_ble_eq_true rfl, Nat.le_of_ble_eq_true rfl⟩ (Nat.le_of_ble_eq_true rfl) dRO_wakeFirst_3 (fun r_2 s_1 => ?_)
  refine zz_astore_nq h dRO_wakeFirst_6 (Nat.le_of_ble_eq_true rfl) ?_
  refine zz_aload_nq h dRO_wakeFirst_7 rfl ?_
  refine zz_ifnonnull h 13 dRO_wakeFirst_8 rfl (fun e_4 => ?_) (fun t_3 ht_3 e_4 => ?_)
  · subst e_4
    refine zz_iconst (v := -1) h dRO_wakeFirst_11 zz_li_m1 ?_
    exact zz_iret h dRO_wakeFirst_12
  · subst e_4
    refine zz_aload_n h dRO_wakeFirst_13 rfl ?_
    refine zz_aload_n h dRO_wakeFirst_14 rfl ?_
    refine zz_callV1v h 2 rfl rfl (RO_makeReady_c hV _ ht_3 _) RO_makeReady_k zm_RO_58 rfl rfl ⟨Nat.le_of_ble_eq_true rfl, Nat.le_of_ble_eq_true rfl⟩ (Nat.le_of_ble_eq_true rfl) dRO_wakeFirst_15 (fun _ s_5 => ?_)
    refine zz_aload_n h dRO_wakeFirst_18 rfl ?_
    refine zc_g_TA_number ht_3 h zi_TA zf_RO_68 dRO_wakeFirst_19 ?_
    exact zz_iret h dRO_wakeFirst_22
theorem RO_wakeFirst_c {l : Launch} {D : va_G} {ad : Nat → Nat} {cA : Nat → ClassId} {tb : Nat} (hV : zz_ok (zc_V l D ad cA tb)) (x1 : Int32) (x2 : Int32) (st : zz_S) : zz_C (zc_V l D ad cA tb) yRO_wakeFirst (Cond.code yRO_wakeFirst prog_6_method_13_code 4 (some .int) :: zt_T) { frames := 2, cells := 0, slots := 0, locals := 47 } zz_ji [.ref (ad 2), .int x1, .int x2] st (RO_wakeFirst_f x1 x2 st) := zz_met hV (by decide +kernel) rfl (Nat.le_of_ble_eq_true rfl) rfl (fun E h => RO_wakeFirst_w hV h x1 x2 st)
def RO_await_f (t1 : Nat) (x2 : Int32) (x3 : Int32) (st : zz_S) : Option (Unit × zz_S) := (zz_bd (RO_nextChange_f st) fun r_2 s_1 => (zz_bd (TA_enter_f t1 (3 : Int32) r_2 s_1) fun _ s_3 => (zz_nm (zz_ap s_3 11 t1 x2) fun s_4 => (zz_nm (zz_ap s_4 12 t1 x3) fun s_5 => (some ((), s_5))))))
set_option maxRecDepth 100000 in
set_option maxHeartbeats 4000000 in
theorem RO_await_w {l : Launch} {D : va_G} {ad : Nat → Nat} {cA : Nat → ClassId} {tb : Nat} {E : zz_E} (hV : zz_ok (zc_V l D ad cA tb)) (h : zz_X (zc_V l D ad cA tb) E "FrameProcessor$Roster" prog_6_method_12_code 4 zt_T 1 22 none) (t1 : Nat) (ht1 : t1 < 6) (x2 : Int32) (x3 : Int32) (st : zz_S) : zz_Z (zc_V l D ad cA tb) E 4 0 0 (zz_q (zc_V l D ad cA tb) E zz_jv) (RO_await_f t1 x2 x3 st) 0 [(0, .ref (ad 2)), (1, .ref (ad (15 + t1))), (2, .int x2), (3, .int x3)] [] st := by
  unfold RO_await_f
  refine zz_aload_n h dRO_await_0 rfl ?_
  refine zz_iconst (v := 3) h dRO_await_1 zz_li_3 ?_
  refine zz_aload_n h dRO_await_2 rfl ?_
  refine zz_callV0i h 2 rfl rfl (RO_nextChange_c hV _) RO_nextChange_k zm_RO_41 rfl rfl ⟨Nat.le_of_ble_eq_true rfl, Nat.le_of_ble_eq_true rfl⟩ (Nat.le_of_ble_eq_true rfl) dRO_await_3 (fun r_2 s_1 => ?_)
  refine zz_callV2v h (15 + t1) (zc_at ht1) rfl (TA_enter_c hV _ ht1 _ _ _) TA_enter_k zm_RO_45 rfl rfl ⟨Nat.le_of_ble_eq_true rfl, Nat.le_of_ble_eq_true rfl⟩ (Nat.le_of_ble_eq_true rfl) dRO_await_6 (fun _ s_3 => ?_)
  refine zz_aload_n h dRO_await_9 rfl ?_
  refine zz_iload_n h dRO_await_10 rfl ?_
  refine zc_p_TA_address ht1 h zi_TA zf_RO_28 dRO_await_11 (fun s_4 => ?_)
  refine zz_aload_n h dRO_await_14 rfl ?_
  refine zz_iload_n h dRO_await_15 rfl ?_
  refine zc_p_TA_timeout ht1 h zi_TA zf_RO_65 dRO_await_16 (fun s_5 => ?_)
  exact zz_vret h dRO_await_19
theorem RO_await_c {l : Launch} {D : va_G} {ad : Nat → Nat} {cA : Nat → ClassId} {tb : Nat} (hV : zz_ok (zc_V l D ad cA tb)) (t1 : Nat) (ht1 : t1 < 6) (x2 : Int32) (x3 : Int32) (st : zz_S) : zz_C (zc_V l D ad cA tb) yRO_await (Cond.code yRO_await prog_6_method_12_code 4 none :: zt_T) { frames := 1, cells := 0, slots := 0, locals := 22 } zz_jv [.ref (ad 2), .ref (ad (15 + t1)), .int x2, .int x3] st (RO_await_f t1 x2 x3 st) := zz_met hV (by decide +kernel) rfl (Nat.le_of_ble_eq_true rfl) rfl (fun E h => RO_await_w hV h t1 ht1 x2 x3 st)
def RO_wakeAll_2b (k2 : Int32 → Int32 → zz_S → Option (Unit × zz_S)) (x1 : Int32) (x2 : Int32) (st : zz_S) : Option (Unit × zz_S) := (if (6 : Int32) ≤ x2 then (some ((), st)) else (zz_bd (RO_wakeFirst_f (3 : Int32) x1 st) fun r_2 s_1 => (k2 x1 (x2 + (1 : Int32)) s_1)))
def RO_wakeAll_2 : Nat → Int32 → Int32 → zz_S → Option (Unit × zz_S)
  | 0 => fun _ _ _ => none
  | n + 1 => RO_wakeAll_2b (RO_wakeAll_2 n)
def RO_wakeAll_f (x1 : Int32) (st : zz_S) : Option (Unit × zz_S) := (RO_wakeAll_2 10 x1 (0 : Int32) st)
set_option maxRecDepth 100000 in
set_option maxHeartbeats 4000000 in
theorem RO_wakeAll_2b_w {l : Launch} {D : va_G} {ad : Nat → Nat} {cA : Nat → ClassId} {tb : Nat} {E : zz_E} (hV : zz_ok (zc_V l D ad cA tb)) (h : zz_X (zc_V l D ad cA tb) E "FrameProcessor$Roster" prog_6_method_14_code 3 zt_T 3 70 none) {k2 : Int32 → Int32 → zz_S → Option (Unit × zz_S)} (hk2 : ∀ (x1 : Int32) (x2 : Int32) (st : zz_S), zz_Z (zc_V l D ad cA tb) E 3 0 0 (zz_q (zc_V l D ad cA tb) E zz_jv) (k2 x1 x2 st) 2 [(0, .ref (ad 2)), (1, .int x1), (2, .int x2)] [] st) (x1 : Int32) (x2 : Int32) (st : zz_S) : zz_Z (zc_V l D ad cA tb) E 3 0 0 (zz_q (zc_V l D ad cA tb) E zz_jv) (RO_wakeAll_2b k2 x1 x2 st) 2 [(0, .ref (ad 2)), (1, .int x1), (2, .int x2)] [] st := by
  unfold RO_wakeAll_2b
  refine zz_iload_n h dRO_wakeAll_2 rfl ?_
  refine zz_bipush (v := 6) h dRO_wakeAll_3 zz_lb_6 ?_
  refine zz_icmp_ge h 21 dRO_wakeAll_5 rfl ?_ ?_
  · exact zz_vret h dRO_wakeAll_21
  · refine zz_aload_n h dRO_wakeAll_8 rfl ?_
    refine zz_iconst (v := 3) h dRO_wakeAll_9 zz_li_3 ?_
    refine zz_iload_n h dRO_wakeAll_10 rfl ?_
    refine zz_callV2i h 2 rfl rfl (RO_wakeFirst_c hV _ _ _) RO_wakeFirst_k zm_RO_71 rfl rfl ⟨Nat.le_of_ble_eq_true rfl, Nat.le_of_ble_eq_true rfl⟩ (Nat.le_of_ble_eq_true rfl) dRO_wakeAll_11 (fun r_2 s_1 => ?_)
    refine zz_pop h dRO_wakeAll_14 rfl ?_
    refine zz_iinc h (1 : Int32) dRO_wakeAll_15 zz_li_1 rfl (Nat.le_of_ble_eq_true rfl) ?_
    refine zz_goto h 2 dRO_wakeAll_18 rfl ?_
    exact zz_sub (hk2 _ _ _) rfl
theorem RO_wakeAll_2_w {l : Launch} {D : va_G} {ad : Nat → Nat} {cA : Nat → ClassId} {tb : Nat} {E : zz_E} (hV : zz_ok (zc_V l D ad cA tb)) (h : zz_X (zc_V l D ad cA tb) E "FrameProcessor$Roster" prog_6_method_14_code 3 zt_T 3 70 none) : ∀ (n : Nat) (x1 : Int32) (x2 : Int32) (st : zz_S), zz_Z (zc_V l D ad cA tb) E 3 0 0 (zz_q (zc_V l D ad cA tb) E zz_jv) (RO_wakeAll_2 n x1 x2 st) 2 [(0, .ref (ad 2)), (1, .int x1), (2, .int x2)] [] st
  | 0, _, _, _ => zz_none
  | n + 1, x1, x2, st => RO_wakeAll_2b_w hV h (RO_wakeAll_2_w hV h n) x1 x2 st
set_option maxRecDepth 100000 in
set_option maxHeartbeats 4000000 in
theorem RO_wakeAll_w {l : Launch} {D : va_G} {ad : Nat → Nat} {cA : Nat → ClassId} {tb : Nat} {E : zz_E} (hV : zz_ok (zc_V l D ad cA tb)) (h : zz_X (zc_V l D ad cA tb) E "FrameProcessor$Roster" prog_6_method_14_code 3 zt_T 3 70 none) (x1 : Int32) (st : zz_S) : zz_Z (zc_V l D ad cA tb) E 3 0 0 (zz_q (zc_V l D ad cA tb) E zz_jv) (RO_wakeAll_f x1 st) 0 [(0, .ref (ad 2)), (1, .int x1)] [] st := by
  unfold RO_wakeAll_f
  refine zz_iconst (v := 0) h dRO_wakeAll_0 zz_li_0 ?_
  refine zz_istore_n h dRO_wakeAll_1 (Nat.le_of_ble_eq_true rfl) ?_
  exact zz_sub (RO_wakeAll_2_w hV h _ _ _ _) rfl
theorem RO_wakeAll_c {l : Launch} {D : va_G} {ad : Nat → Nat} {cA : Nat → ClassId} {tb : Nat} (hV : zz_ok (zc_V l D ad cA tb)) (x1 : Int32) (st : zz_S) : zz_C (zc_V l D ad cA tb) yRO_wakeAll (Cond.code yRO_wakeAll prog_6_method_14_code 3 none :: zt_T) { frames := 3, cells := 0, slots := 0, locals := 70 } zz_jv [.ref (ad 2), .int x1] st (RO_wakeAll_f x1 st) := zz_met hV (by decide +kernel) rfl (Nat.le_of_ble_eq_true rfl) rfl (fun E h => RO_wakeAll_w hV h x1 st)
def PR_settle_208 (st : zz_S) : Option (Unit × zz_S) := (zz_bd (RO_wakeFirst_f (2 : Int32) (zz_sg st 8) st) fun r_2 s_1 => (some ((), s_1)))
def PR_settle_f (st : zz_S) : Option (Unit × zz_S) := (zz_oc (zz_qg st 0) none fun t_3 => zz_gd (Nat.blt t_3 6) (zz_bd (WS_saveTo_f t_3 st) fun _ s_4 => (zz_oc (zz_qg s_4 0) none fun t_5 => zz_gd (Nat.blt t_5 6) (zz_nm (zz_ap s_4 9 t_5 (zz_sg s_4 3)) fun s_6 => (zz_nm (zz_sg s_6 17) fun v_7 => (if v_7 = (27 : Int32) then (if (zz_sg s_6 5) = 0 then (some ((), s_6)) else (zz_oc (zz_qg s_6 0) none fun t_9 => zz_gd (Nat.blt t_9 6) (zz_bd (TA_clear_f t_9 s_6) fun _ s_10 => (some ((), s_10))))) else (if v_7 = (28 : Int32) then (some ((), s_6)) else (if v_7 = (29 : Int32) then (some ((), s_6)) else (if v_7 = (30 : Int32) then (some ((), s_6)) else (if v_7 = (31 : Int32) then (zz_oc (zz_qg s_6 1) (some ((), s_6)) fun t_15 => zz_gd (Nat.blt t_15 6) (zz_oc (zz_qg s_6 1) none fun t_17 => zz_gd (Nat.blt t_17 6) (zz_bd (RO_begin_f t_17 (zz_sg s_6 11) (zz_sg s_6 12) s_6) fun _ s_18 => (some ((), s_18))))) else (if v_7 = (32 : Int32) then (some ((), s_6)) else (if v_7 = (33 : Int32) then (some ((), s_6)) else (if v_7 = (34 : Int32) then (some ((), s_6)) else (if v_7 = (35 : Int32) then (some ((), s_6)) else (if v_7 = (36 : Int32) then (some ((), s_6)) else (if v_7 = (37 : Int32) then (some ((), s_6)) else (if v_7 = (38 : Int32) then (some ((), s_6)) else (if v_7 = (39 : Int32) then (some ((), s_6)) else (if v_7 = (40 : Int32) then (some ((), s_6)) else (if v_7 = (41 : Int32) then (zz_bd (RO_wakeFirst_f (2 : Int32) (zz_sg s_6 8) s_6) fun r_30 s_29 => (some ((), s_29))) else (if v_7 = (42 : Int32) then (if (zz_sg s_6 7) = 0 then (PR_settle_208 s_6) else (zz_oc (zz_qg s_6 0) none fun t_32 => zz_gd (Nat.blt t_32 6) (zz_bd (RO_await_f t_32 (zz_sg s_6 9) (zz_sg s_6 10) s_6) fun _ s_33 => (PR_settle_208 s_33)))) else (if v_7 = (43 : Int32) then (zz_bd (RO_wakeFirst_f (3 : Int32) (zz_sg s_6 9) s_6) fun r_36 s_35 => (some ((), s_35))) else (if v_7 = (44 : Int32) then (zz_bd (RO_wakeAll_f (zz_sg s_6 9) s_6) fun _ s_38 => (some ((), s_38))) else (if v_7 = (45 : Int32) then (zz_oc (zz_qg s_6 0) none fun t_40 => zz_gd (Nat.blt t_40 6) (zz_bd (RO_makeReady_f t_40 s_6) fun _ s_41 => (some ((), s_41)))) else (some ((), s_6))))))))))))))))))))))))))
set_option maxRecDepth 100000 in
set_option maxHeartbeats 4000000 in
theorem PR_settle_208_w {l : Launch} {D : va_G} {ad : Nat → Nat} {cA : Nat → ClassId} {tb : Nat} {E : zz_E} (hV : zz_ok (zc_V l D ad cA tb)) (h : zz_X (zc_V l D ad cA tb) E "FrameProcessor$Processor" prog_5_method_7_code 1 zt_T 4 92 none) (st : zz_S) : zz_Z (zc_V l D ad cA tb) E 1 0 0 (zz_q (zc_V l D ad cA tb) E zz_jv) (PR_settle_208  st) 208 [(0, .ref (ad 3))] [] st := by
  unfold PR_settle_208
  refine zz_aload_n h dPR_settle_208 rfl ?_
  refine zc_g_PR_roster h zi_PR zf_PR_15 dPR_settle_209 ?_
  refine zz_iconst (v := 2) h dPR_settle_212 zz_li_2 ?_
  refine zz_aload_n h dPR_settle_213 rfl ?_
  refine zc_g_PR_monitor h zi_PR zf_PR_117 dPR_settle_214 ?_
  refine zz_callV2i h 2 rfl rfl (RO_wakeFirst_c hV _ _ _) RO_wakeFirst_k zm_PR_171 rfl rfl ⟨Nat.le_of_ble_eq_true rfl, Nat.le_of_ble_eq_true rfl⟩ (Nat.le_of_ble_eq_true rfl) dPR_settle_217 (fun r_2 s_1 => ?_)
  refine zz_pop h dPR_settle_220 rfl ?_
  refine zz_goto h 268 dPR_settle_221 rfl ?_
  exact zz_vret h dPR_settle_268
set_option maxRecDepth 100000 in
set_option maxHeartbeats 4000000 in
theorem PR_settle_w {l : Launch} {D : va_G} {ad : Nat → Nat} {cA : Nat → ClassId} {tb : Nat} {E : zz_E} (hV : zz_ok (zc_V l D ad cA tb)) (h : zz_X (zc_V l D ad cA tb) E "FrameProcessor$Processor" prog_5_method_7_code 1 zt_T 4 92 none) (st : zz_S) : zz_Z (zc_V l D ad cA tb) E 1 0 0 (zz_q (zc_V l D ad cA tb) E zz_jv) (PR_settle_f  st) 0 [(0, .ref (ad 3))] [] st := by
  unfold PR_settle_f
  refine zz_aload_n h dPR_settle_0 rfl ?_
  refine zc_g_PR_stack h zi_PR zf_PR_31 dPR_settle_1 ?_
  refine zz_aload_n h dPR_settle_4 rfl ?_
  refine zc_g_PR_task h zi_PR zf_PR_114 dPR_settle_5 ?_
  refine zz_nn (fun t_3 ht_3 => ?_)
  refine zz_callV1v h 5 rfl rfl (WS_saveTo_c hV _ ht_3 _) WS_saveTo_k zm_PR_165 rfl rfl ⟨Nat.le_of_ble_eq_true rfl, Nat.le_of_ble_eq_true rfl⟩ (Nat.le_of_ble_eq_true rfl) dPR_settle_8 (fun _ s_4 => ?_)
  refine zz_aload_n h dPR_settle_11 rfl ?_
  refine zc_g_PR_task h zi_PR zf_PR_114 dPR_settle_12 ?_
  refine zz_nn (fun t_5 ht_5 => ?_)
  refine zz_aload_n h dPR_settle_15 rfl ?_
  refine zc_g_PR_frame h zi_PR zf_PR_85 dPR_settle_16 ?_
  refine zc_p_TA_frame ht_5 h zi_TA zf_PR_140 dPR_settle_19 (fun s_6 => ?_)
  refine zz_aload_n h dPR_settle_22 rfl ?_
  refine zc_g_PR_instruction h zi_PR zf_PR_40 dPR_settle_23 ?_
  refine zc_g_IN_code h zi_IN zf_PR_92 dPR_settle_26 ?_
  refine zz_topi (fun v_7 => ?_)
  refine zz_ite (fun c_8 => ?_) (fun c_8 => ?_)
  · refine zz_table (off := 91) h 120 dPR_settle_29 c_8 (by decide) (by decide) (by decide) rfl ?_
    refine zz_aload_n h dPR_settle_120 rfl ?_
    refine zc_g_PR_ends h zi_PR zf_PR_144 dPR_settle_121 ?_
    refine zz_if_eq h 268 dPR_settle_124 rfl ?_ ?_
    · exact zz_vret h dPR_settle_268
    · refine zz_aload_n h dPR_settle_127 rfl ?_
      refine zc_g_PR_task h zi_PR zf_PR_114 dPR_settle_128 ?_
      refine zz_nn (fun t_9 ht_9 => ?_)
      refine zz_callV0v h (15 + t_9) (zc_at ht_9) rfl (TA_clear_c hV _ ht_9 _) TA_clear_k zm_PR_168 rfl rfl ⟨Nat.le_of_ble_eq_true rfl, Nat.le_of_ble_eq_true rfl⟩ (Nat.le_of_ble_eq_true rfl) dPR_settle_131 (fun _ s_10 => ?_)
      refine zz_goto h 268 dPR_settle_134 rfl ?_
      exact zz_vret h dPR_settle_268
  refine zz_ite (fun c_11 => ?_) (fun c_11 => ?_)
  · refine zz_table (off := 239) h 268 dPR_settle_29 c_11 (by decide) (by decide) (by decide) rfl ?_
    exact zz_vret h dPR_settle_268
  refine zz_ite (fun c_12 => ?_) (fun c_12 => ?_)
  · refine zz_table (off := 239) h 268 dPR_settle_29 c_12 (by decide) (by decide) (by decide) rfl ?_
    exact zz_vret h dPR_settle_268
  refine zz_ite (fun c_13 => ?_) (fun c_13 => ?_)
  · refine zz_table (off := 239) h 268 dPR_settle_29 c_13 (by decide) (by decide) (by decide) rfl ?_
    exact zz_vret h dPR_settle_268
  refine zz_ite (fun c_14 => ?_) (fun c_14 => ?_)
  · refine zz_table (off := 108) h 137 dPR_settle_29 c_14 (by decide) (by decide) (by decide) rfl ?_
    refine zz_aload_n h dPR_settle_137 rfl ?_
    refine zc_g_PR_child h zi_PR zf_PR_57 dPR_settle_138 ?_
    refine zz_ifnull h 268 dPR_settle_141 rfl (fun e_16 => ?_) (fun t_15 ht_15 e_16 => ?_)
    · exact zz_vret h dPR_settle_268
    · refine zz_aload_n h dPR_settle_144 rfl ?_
      refine zc_g_PR_roster h zi_PR zf_PR_15 dPR_settle_145 ?_
      refine zz_aload_n h dPR_settle_148 rfl ?_
      refine zc_g_PR_child h zi_PR zf_PR_57 dPR_settle_149 ?_
      refine zz_nn (fun t_17 ht_17 => ?_)
      refine zz_aload_n h dPR_settle_152 rfl ?_
      refine zc_g_PR_childFrame h zi_PR zf_PR_64 dPR_settle_153 ?_
      refine zz_aload_n h dPR_settle_156 rfl ?_
      refine zc_g_PR_childPriority h zi_PR zf_PR_68 dPR_settle_157 ?_
      refine zz_callV3v h 2 rfl rfl (RO_begin_c hV _ ht_17 _ _ _) RO_begin_k zm_PR_71 rfl rfl ⟨Nat.le_of_ble_eq_true rfl, Nat.le_of_ble_eq_true rfl⟩ (Nat.le_of_ble_eq_true rfl) dPR_settle_160 (fun _ s_18 => ?_)
      refine zz_goto h 268 dPR_settle_163 rfl ?_
      exact zz_vret h dPR_settle_268
  refine zz_ite (fun c_19 => ?_) (fun c_19 => ?_)
  · refine zz_table (off := 239) h 268 dPR_settle_29 c_19 (by decide) (by decide) (by decide) rfl ?_
    exact zz_vret h dPR_settle_268
  refine zz_ite (fun c_20 => ?_) (fun c_20 => ?_)
  · refine zz_table (off := 239) h 268 dPR_settle_29 c_20 (by decide) (by decide) (by decide) rfl ?_
    exact zz_vret h dPR_settle_268
  refine zz_ite (fun c_21 => ?_) (fun c_21 => ?_)
  · refine zz_table (off := 239) h 268 dPR_settle_29 c_21 (by decide) (by decide) (by decide) rfl ?_
    exact zz_vret h dPR_settle_268
  refine zz_ite (fun c_22 => ?_) (fun c_22 => ?_)
  · refine zz_table (off := 239) h 268 dPR_settle_29 c_22 (by decide) (by decide) (by decide) rfl ?_
    exact zz_vret h dPR_settle_268
  refine zz_ite (fun c_23 => ?_) (fun c_23 => ?_)
  · refine zz_table (off := 239) h 268 dPR_settle_29 c_23 (by decide) (by decide) (by decide) rfl ?_
    exact zz_vret h dPR_settle_268
  refine zz_ite (fun c_24 => ?_) (fun c_24 => ?_)
  · refine zz_table (off := 239) h 268 dPR_settle_29 c_24 (by decide) (by decide) (by decide) rfl ?_
    exact zz_vret h dPR_settle_268
  refine zz_ite (fun c_25 => ?_) (fun c_25 => ?_)
  · refine zz_table (off := 239) h 268 dPR_settle_29 c_25 (by decide) (by decide) (by decide) rfl ?_
    exact zz_vret h dPR_settle_268
  refine zz_ite (fun c_26 => ?_) (fun c_26 => ?_)
  · refine zz_table (off := 239) h 268 dPR_settle_29 c_26 (by decide) (by decide) (by decide) rfl ?_
    exact zz_vret h dPR_settle_268
  refine zz_ite (fun c_27 => ?_) (fun c_27 => ?_)
  · refine zz_table (off := 239) h 268 dPR_settle_29 c_27 (by decide) (by decide) (by decide) rfl ?_
    exact zz_vret h dPR_settle_268
  refine zz_ite (fun c_28 => ?_) (fun c_28 => ?_)
  · refine zz_table (off := 137) h 166 dPR_settle_29 c_28 (by decide) (by decide) (by decide) rfl ?_
    refine zz_aload_n h dPR_settle_166 rfl ?_
    refine zc_g_PR_roster h zi_PR zf_PR_15 dPR_settle_167 ?_
    refine zz_iconst (v := 2) h dPR_settle_170 zz_li_2 ?_
    refine zz_aload_n h dPR_settle_171 rfl ?_
    refine zc_g_PR_monitor h zi_PR zf_PR_117 dPR_settle_172 ?_
    refine zz_callV2i h 2 rfl rfl (RO_wakeFirst_c hV _ _ _) RO_wakeFirst_k zm_PR_171 rfl rfl ⟨Nat.le_of_ble_eq_true rfl, Nat.le_of_ble_eq_true rfl⟩ (Nat.le_of_ble_eq_true rfl) dPR_settle_175 (fun r_30 s_29 => ?_)
    refine zz_pop h dPR_settle_178 rfl ?_
    refine zz_goto h 268 dPR_settle_179 rfl ?_
    exact zz_vret h dPR_settle_268
  refine zz_ite (fun c_31 => ?_) (fun c_31 => ?_)
  · refine zz_table (off := 153) h 182 dPR_settle_29 c_31 (by decide) (by decide) (by decide) rfl ?_
    refine zz_aload_n h dPR_settle_182 rfl ?_
    refine zc_g_PR_waits h zi_PR zf_PR_147 dPR_settle_183 ?_
    refine zz_if_eq h 208 dPR_settle_186 rfl ?_ ?_
    · exact zz_sub (PR_settle_208_w hV h  _) rfl
    · refine zz_aload_n h dPR_settle_189 rfl ?_
      refine zc_g_PR_roster h zi_PR zf_PR_15 dPR_settle_190 ?_
      refine zz_aload_n h dPR_settle_193 rfl ?_
      refine zc_g_PR_task h zi_PR zf_PR_114 dPR_settle_194 ?_
      refine zz_nn (fun t_32 ht_32 => ?_)
      refine zz_aload_n h dPR_settle_197 rfl ?_
      refine zc_g_PR_condition h zi_PR zf_PR_175 dPR_settle_198 ?_
      refine zz_aload_n h dPR_settle_201 rfl ?_
      refine zc_g_PR_timeout h zi_PR zf_PR_178 dPR_settle_202 ?_
      refine zz_callV3v h 2 rfl rfl (RO_await_c hV _ ht_32 _ _ _) RO_await_k zm_PR_181 rfl rfl ⟨Nat.le_of_ble_eq_true rfl, Nat.le_of_ble_eq_true rfl⟩ (Nat.le_of_ble_eq_true rfl) dPR_settle_205 (fun _ s_33 => ?_)
      exact zz_sub (PR_settle_208_w hV h  _) rfl
  refine zz_ite (fun c_34 => ?_) (fun c_34 => ?_)
  · refine zz_table (off := 195) h 224 dPR_settle_29 c_34 (by decide) (by decide) (by decide) rfl ?_
    refine zz_aload_n h dPR_settle_224 rfl ?_
    refine zc_g_PR_roster h zi_PR zf_PR_15 dPR_settle_225 ?_
    refine zz_iconst (v := 3) h dPR_settle_228 zz_li_3 ?_
    refine zz_aload_n h dPR_settle_229 rfl ?_
    refine zc_g_PR_condition h zi_PR zf_PR_175 dPR_settle_230 ?_
    refine zz_callV2i h 2 rfl rfl (RO_wakeFirst_c hV _ _ _) RO_wakeFirst_k zm_PR_171 rfl rfl ⟨Nat.le_of_ble_eq_true rfl, Nat.le_of_ble_eq_true rfl⟩ (Nat.le_of_ble_eq_true rfl) dPR_settle_233 (fun r_36 s_35 => ?_)
    refine zz_pop h dPR_settle_236 rfl ?_
    refine zz_goto h 268 dPR_settle_237 rfl ?_
    exact zz_vret h dPR_settle_268
  refine zz_ite (fun c_37 => ?_) (fun c_37 => ?_)
  · refine zz_table (off := 211) h 240 dPR_settle_29 c_37 (by decide) (by decide) (by decide) rfl ?_
    refine zz_aload_n h dPR_settle_240 rfl ?_
    refine zc_g_PR_roster h zi_PR zf_PR_15 dPR_settle_241 ?_
    refine zz_aload_n h dPR_settle_244 rfl ?_
    refine zc_g_PR_condition h zi_PR zf_PR_175 dPR_settle_245 ?_
    refine zz_callV1v h 2 rfl rfl (RO_wakeAll_c hV _ _) RO_wakeAll_k zm_PR_184 rfl rfl ⟨Nat.le_of_ble_eq_true rfl, Nat.le_of_ble_eq_true rfl⟩ (Nat.le_of_ble_eq_true rfl) dPR_settle_248 (fun _ s_38 => ?_)
    refine zz_goto h 268 dPR_settle_251 rfl ?_
    exact zz_vret h dPR_settle_268
  refine zz_ite (fun c_39 => ?_) (fun c_39 => ?_)
  · refine zz_table (off := 225) h 254 dPR_settle_29 c_39 (by decide) (by decide) (by decide) rfl ?_
    refine zz_aload_n h dPR_settle_254 rfl ?_
    refine zc_g_PR_roster h zi_PR zf_PR_15 dPR_settle_255 ?_
    refine zz_aload_n h dPR_settle_258 rfl ?_
    refine zc_g_PR_task h zi_PR zf_PR_114 dPR_settle_259 ?_
    refine zz_nn (fun t_40 ht_40 => ?_)
    refine zz_callV1v h 2 rfl rfl (RO_makeReady_c hV _ ht_40 _) RO_makeReady_k zm_PR_187 rfl rfl ⟨Nat.le_of_ble_eq_true rfl, Nat.le_of_ble_eq_true rfl⟩ (Nat.le_of_ble_eq_true rfl) dPR_settle_262 (fun _ s_41 => ?_)
    refine zz_goto h 268 dPR_settle_265 rfl ?_
    exact zz_vret h dPR_settle_268
  refine zz_tableD h 268 dPR_settle_29 (by have z0 := lv_neT (a := 27) c_8 (by decide); have z1 := lv_neT (a := 28) c_11 (by decide); have z2 := lv_neT (a := 29) c_12 (by decide); have z3 := lv_neT (a := 30) c_13 (by decide); have z4 := lv_neT (a := 31) c_14 (by decide); have z5 := lv_neT (a := 32) c_19 (by decide); have z6 := lv_neT (a := 33) c_20 (by decide); have z7 := lv_neT (a := 34) c_21 (by decide); have z8 := lv_neT (a := 35) c_22 (by decide); have z9 := lv_neT (a := 36) c_23 (by decide); have z10 := lv_neT (a := 37) c_24 (by decide); have z11 := lv_neT (a := 38) c_25 (by decide); have z12 := lv_neT (a := 39) c_26 (by decide); have z13 := lv_neT (a := 40) c_27 (by decide); have z14 := lv_neT (a := 41) c_28 (by decide); have z15 := lv_neT (a := 42) c_31 (by decide); have z16 := lv_neT (a := 43) c_34 (by decide); have z17 := lv_neT (a := 44) c_37 (by decide); have z18 := lv_neT (a := 45) c_39 (by decide); omega) rfl ?_
  exact zz_vret h dPR_settle_268
theorem PR_settle_c {l : Launch} {D : va_G} {ad : Nat → Nat} {cA : Nat → ClassId} {tb : Nat} (hV : zz_ok (zc_V l D ad cA tb)) (st : zz_S) : zz_C (zc_V l D ad cA tb) yPR_settle (Cond.code yPR_settle prog_5_method_7_code 1 none :: zt_T) { frames := 4, cells := 0, slots := 0, locals := 92 } zz_jv [.ref (ad 3)] st (PR_settle_f  st) := zz_met hV (by decide +kernel) rfl (Nat.le_of_ble_eq_true rfl) rfl (fun E h => PR_settle_w hV h  st)
def PR_step_106 (st : zz_S) : Option (Unit × zz_S) := (if (zz_sg st 6) = 0 then (zz_bd (PR_endAtNext_f st) fun _ s_1 => (zz_bd (ME_hasFailed_f s_1) fun r_3 s_2 => (if r_3 = 0 then (zz_bd (PR_settle_f s_2) fun _ s_4 => (some ((), s_4))) else (zz_bd (ME_undo_f s_2) fun _ s_5 => (zz_oc (zz_qg s_5 0) none fun t_6 => zz_gd (Nat.blt t_6 6) (zz_bd (ME_faultHeld_f s_5) fun r_8 s_7 => (zz_bd (RO_halt_f t_6 r_8 s_7) fun _ s_9 => (some ((), s_9))))))))) else (zz_oc (zz_qg st 0) none fun t_10 => zz_gd (Nat.blt t_10 6) (zz_bd (RO_block_f t_10 (zz_sg st 8) st) fun _ s_11 => (some ((), s_11)))))
def PR_step_f (t1 : Nat) (st : zz_S) : Option (Unit × zz_S) := (zz_bd (PR_beginWith_f t1 st) fun _ s_12 => (zz_bd (IN_fetch_f (zz_sg s_12 3) s_12) fun _ s_13 => (zz_bd (ME_hasFailed_f s_13) fun r_15 s_14 => (if r_15 = 0 then (if (9 : Int32) ≤ (zz_sg s_14 17) then (if (17 : Int32) ≤ (zz_sg s_14 17) then (if (25 : Int32) ≤ (zz_sg s_14 17) then (if (40 : Int32) ≤ (zz_sg s_14 17) then (zz_bd (PR_coordinate_f s_14) fun _ s_16 => (PR_step_106 s_16)) else (zz_bd (PR_transfer_f s_14) fun _ s_17 => (PR_step_106 s_17))) else (zz_bd (PR_arrange_f s_14) fun _ s_18 => (PR_step_106 s_18))) else (zz_bd (PR_combine_f s_14) fun _ s_19 => (PR_step_106 s_19))) else (zz_bd (PR_move_f s_14) fun _ s_20 => (PR_step_106 s_20))) else (PR_step_106 s_14)))))
set_option maxRecDepth 100000 in
set_option maxHeartbeats 4000000 in
theorem PR_step_106_w {l : Launch} {D : va_G} {ad : Nat → Nat} {cA : Nat → ClassId} {tb : Nat} {E : zz_E} (hV : zz_ok (zc_V l D ad cA tb)) (h : zz_X (zc_V l D ad cA tb) E "FrameProcessor$Processor" prog_5_method_3_code 2 zt_T 5 123 none) (st : zz_S) : zz_Z (zc_V l D ad cA tb) E 2 0 0 (zz_q (zc_V l D ad cA tb) E zz_jv) (PR_step_106  st) 106 [(0, .ref (ad 3))] [] st := by
  unfold PR_step_106
  refine zz_aload_n h dPR_step_106 rfl ?_
  refine zc_g_PR_blocks h zi_PR zf_PR_110 dPR_step_107 ?_
  refine zz_if_eq h 129 dPR_step_110 rfl ?_ ?_
  · refine zz_aload_n h dPR_step_129 rfl ?_
    refine zz_callV0v h 3 rfl rfl (PR_endAtNext_c hV _) PR_endAtNext_k zm_PR_124 rfl rfl ⟨Nat.le_of_ble_eq_true rfl, Nat.le_of_ble_eq_true rfl⟩ (Nat.le_of_ble_eq_true rfl) dPR_step_130 (fun _ s_1 => ?_)
    refine zz_aload_n h dPR_step_133 rfl ?_
    refine zc_g_PR_memory h zi_PR zf_PR_9 dPR_step_134 ?_
    refine zz_callV0i h 1 rfl rfl (ME_hasFailed_c hV _) ME_hasFailed_k zm_PR_53 rfl rfl ⟨Nat.le_of_ble_eq_true rfl, Nat.le_of_ble_eq_true rfl⟩ (Nat.le_of_ble_eq_true rfl) dPR_step_137 (fun r_3 s_2 => ?_)
    refine zz_if_eq h 169 dPR_step_140 rfl ?_ ?_
    · refine zz_aload_n h dPR_step_169 rfl ?_
      refine zz_callV0v h 3 rfl rfl (PR_settle_c hV _) PR_settle_k zm_PR_134 rfl rfl ⟨Nat.le_of_ble_eq_true rfl, Nat.le_of_ble_eq_true rfl⟩ (Nat.le_of_ble_eq_true rfl) dPR_step_170 (fun _ s_4 => ?_)
      exact zz_vret h dPR_step_173
    · refine zz_aload_n h dPR_step_143 rfl ?_
      refine zc_g_PR_memory h zi_PR zf_PR_9 dPR_step_144 ?_
      refine zz_callV0v h 1 rfl rfl (ME_undo_c hV _) ME_undo_k zm_PR_61 rfl rfl ⟨Nat.le_of_ble_eq_true rfl, Nat.le_of_ble_eq_true rfl⟩ (Nat.le_of_ble_eq_true rfl) dPR_step_147 (fun _ s_5 => ?_)
      refine zz_aload_n h dPR_step_150 rfl ?_
      refine zc_g_PR_roster h zi_PR zf_PR_15 dPR_step_151 ?_
      refine zz_aload_n h dPR_step_154 rfl ?_
      refine zc_g_PR_task h zi_PR zf_PR_114 dPR_step_155 ?_
      refine zz_nn (fun t_6 ht_6 => ?_)
      refine zz_aload_n h dPR_step_158 rfl ?_
      refine zc_g_PR_memory h zi_PR zf_PR_9 dPR_step_159 ?_
      refine zz_callV0i h 1 rfl rfl (ME_faultHeld_c hV _) ME_faultHeld_k zm_PR_127 rfl rfl ⟨Nat.le_of_ble_eq_true rfl, Nat.le_of_ble_eq_true rfl⟩ (Nat.le_of_ble_eq_true rfl) dPR_step_162 (fun r_8 s_7 => ?_)
      refine zz_callV2v h 2 rfl rfl (RO_halt_c hV _ ht_6 _ _) RO_halt_k zm_PR_131 rfl rfl ⟨Nat.le_of_ble_eq_true rfl, Nat.le_of_ble_eq_true rfl⟩ (Nat.le_of_ble_eq_true rfl) dPR_step_165 (fun _ s_9 => ?_)
      exact zz_vret h dPR_step_168
  · refine zz_aload_n h dPR_step_113 rfl ?_
    refine zc_g_PR_roster h zi_PR zf_PR_15 dPR_step_114 ?_
    refine zz_aload_n h dPR_step_117 rfl ?_
    refine zc_g_PR_task h zi_PR zf_PR_114 dPR_step_118 ?_
    refine zz_nn (fun t_10 ht_10 => ?_)
    refine zz_aload_n h dPR_step_121 rfl ?_
    refine zc_g_PR_monitor h zi_PR zf_PR_117 dPR_step_122 ?_
    refine zz_callV2v h 2 rfl rfl (RO_block_c hV _ ht_10 _ _) RO_block_k zm_PR_120 rfl rfl ⟨Nat.le_of_ble_eq_true rfl, Nat.le_of_ble_eq_true rfl⟩ (Nat.le_of_ble_eq_true rfl) dPR_step_125 (fun _ s_11 => ?_)
    exact zz_vret h dPR_step_128
set_option maxRecDepth 100000 in
set_option maxHeartbeats 4000000 in
theorem PR_step_w {l : Launch} {D : va_G} {ad : Nat → Nat} {cA : Nat → ClassId} {tb : Nat} {E : zz_E} (hV : zz_ok (zc_V l D ad cA tb)) (h : zz_X (zc_V l D ad cA tb) E "FrameProcessor$Processor" prog_5_method_3_code 2 zt_T 5 123 none) (t1 : Nat) (ht1 : t1 < 6) (st : zz_S) : zz_Z (zc_V l D ad cA tb) E 2 0 0 (zz_q (zc_V l D ad cA tb) E zz_jv) (PR_step_f t1 st) 0 [(0, .ref (ad 3)), (1, .ref (ad (15 + t1)))] [] st := by
  unfold PR_step_f
  refine zz_aload_n h dPR_step_0 rfl ?_
  refine zz_aload_n h dPR_step_1 rfl ?_
  refine zz_callV1v h 3 rfl rfl (PR_beginWith_c hV _ ht1 _) PR_beginWith_k zm_PR_81 rfl rfl ⟨Nat.le_of_ble_eq_true rfl, Nat.le_of_ble_eq_true rfl⟩ (Nat.le_of_ble_eq_true rfl) dPR_step_2 (fun _ s_12 => ?_)
  refine zz_aload_n h dPR_step_5 rfl ?_
  refine zc_g_PR_instruction h zi_PR zf_PR_40 dPR_step_6 ?_
  refine zz_aload_n h dPR_step_9 rfl ?_
  refine zc_g_PR_frame h zi_PR zf_PR_85 dPR_step_10 ?_
  refine zz_callV1v h 6 rfl rfl (IN_fetch_c hV _ _) IN_fetch_k zm_PR_88 rfl rfl ⟨Nat.le_of_ble_eq_true rfl, Nat.le_of_ble_eq_true rfl⟩ (Nat.le_of_ble_eq_true rfl) dPR_step_13 (fun _ s_13 => ?_)
  refine zz_aload_n h dPR_step_16 rfl ?_
  refine zc_g_PR_memory h zi_PR zf_PR_9 dPR_step_17 ?_
  refine zz_callV0i h 1 rfl rfl (ME_hasFailed_c hV _) ME_hasFailed_k zm_PR_53 rfl rfl ⟨Nat.le_of_ble_eq_true rfl, Nat.le_of_ble_eq_true rfl⟩ (Nat.le_of_ble_eq_true rfl) dPR_step_20 (fun r_15 s_14 => ?_)
  refine zz_if_ne h 106 dPR_step_23 rfl ?_ ?_
  · refine zz_aload_n h dPR_step_26 rfl ?_
    refine zc_g_PR_instruction h zi_PR zf_PR_40 dPR_step_27 ?_
    refine zc_g_IN_code h zi_IN zf_PR_92 dPR_step_30 ?_
    refine zz_bipush (v := 9) h dPR_step_33 zz_lb_9 ?_
    refine zz_icmp_ge h 45 dPR_step_35 rfl ?_ ?_
    · refine zz_aload_n h dPR_step_45 rfl ?_
      refine zc_g_PR_instruction h zi_PR zf_PR_40 dPR_step_46 ?_
      refine zc_g_IN_code h zi_IN zf_PR_92 dPR_step_49 ?_
      refine zz_bipush (v := 17) h dPR_step_52 zz_lb_17 ?_
      refine zz_icmp_ge h 64 dPR_step_54 rfl ?_ ?_
      · refine zz_aload_n h dPR_step_64 rfl ?_
        refine zc_g_PR_instruction h zi_PR zf_PR_40 dPR_step_65 ?_
        refine zc_g_IN_code h zi_IN zf_PR_92 dPR_step_68 ?_
        refine zz_bipush (v := 25) h dPR_step_71 zz_lb_25 ?_
        refine zz_icmp_ge h 83 dPR_step_73 rfl ?_ ?_
        · refine zz_aload_n h dPR_step_83 rfl ?_
          refine zc_g_PR_instruction h zi_PR zf_PR_40 dPR_step_84 ?_
          refine zc_g_IN_code h zi_IN zf_PR_92 dPR_step_87 ?_
          refine zz_bipush (v := 40) h dPR_step_90 zz_lb_40 ?_
          refine zz_icmp_ge h 102 dPR_step_92 rfl ?_ ?_
          · refine zz_aload_n h dPR_step_102 rfl ?_
            refine zz_callV0v h 3 rfl rfl (PR_coordinate_c hV _) PR_coordinate_k zm_PR_107 rfl rfl ⟨Nat.le_of_ble_eq_true rfl, Nat.le_of_ble_eq_true rfl⟩ (Nat.le_of_ble_eq_true rfl) dPR_step_103 (fun _ s_16 => ?_)
            exact zz_sub (PR_step_106_w hV h  _) rfl
          · refine zz_aload_n h dPR_step_95 rfl ?_
            refine zz_callV0v h 3 rfl rfl (PR_transfer_c hV _) PR_transfer_k zm_PR_104 rfl rfl ⟨Nat.le_of_ble_eq_true rfl, Nat.le_of_ble_eq_true rfl⟩ (Nat.le_of_ble_eq_true rfl) dPR_step_96 (fun _ s_17 => ?_)
            refine zz_goto h 106 dPR_step_99 rfl ?_
            exact zz_sub (PR_step_106_w hV h  _) rfl
        · refine zz_aload_n h dPR_step_76 rfl ?_
          refine zz_callV0v h 3 rfl rfl (PR_arrange_c hV _) PR_arrange_k zm_PR_101 rfl rfl ⟨Nat.le_of_ble_eq_true rfl, Nat.le_of_ble_eq_true rfl⟩ (Nat.le_of_ble_eq_true rfl) dPR_step_77 (fun _ s_18 => ?_)
          refine zz_goto h 106 dPR_step_80 rfl ?_
          exact zz_sub (PR_step_106_w hV h  _) rfl
      · refine zz_aload_n h dPR_step_57 rfl ?_
        refine zz_callV0v h 3 rfl rfl (PR_combine_c hV _) PR_combine_k zm_PR_98 rfl rfl ⟨Nat.le_of_ble_eq_true rfl, Nat.le_of_ble_eq_true rfl⟩ (Nat.le_of_ble_eq_true rfl) dPR_step_58 (fun _ s_19 => ?_)
        refine zz_goto h 106 dPR_step_61 rfl ?_
        exact zz_sub (PR_step_106_w hV h  _) rfl
    · refine zz_aload_n h dPR_step_38 rfl ?_
      refine zz_callV0v h 3 rfl rfl (PR_move_c hV _) PR_move_k zm_PR_95 rfl rfl ⟨Nat.le_of_ble_eq_true rfl, Nat.le_of_ble_eq_true rfl⟩ (Nat.le_of_ble_eq_true rfl) dPR_step_39 (fun _ s_20 => ?_)
      refine zz_goto h 106 dPR_step_42 rfl ?_
      exact zz_sub (PR_step_106_w hV h  _) rfl
  · exact zz_sub (PR_step_106_w hV h  _) rfl
theorem PR_step_c {l : Launch} {D : va_G} {ad : Nat → Nat} {cA : Nat → ClassId} {tb : Nat} (hV : zz_ok (zc_V l D ad cA tb)) (t1 : Nat) (ht1 : t1 < 6) (st : zz_S) : zz_C (zc_V l D ad cA tb) yPR_step (Cond.code yPR_step prog_5_method_3_code 2 none :: zt_T) { frames := 5, cells := 0, slots := 0, locals := 123 } zz_jv [.ref (ad 3), .ref (ad (15 + t1))] st (PR_step_f t1 st) := zz_met hV (by decide +kernel) rfl (Nat.le_of_ble_eq_true rfl) rfl (fun E h => PR_step_w hV h t1 ht1 st)
