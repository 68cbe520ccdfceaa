def ME_makeOdd_f (x1 : Int32) (st : zz_S) : Option (Unit × zz_S) := (zz_nm ((x1 >>> ((8 : Int32) &&& 31)) &&& (15 : Int32)) fun v_1 => (zz_gd (zz_in v_1 16) (zz_nm (zz_ag st 1 v_1.toNatClampNeg) fun v_2 => (zz_bd (ME_look_f x1 st) fun r_4 s_3 => (if v_2 = (-1 : Int32) then (some ((), s_3)) else (zz_gd (zz_in v_1 16) (if (zz_ag s_3 2 v_1.toNatClampNeg) = 0 then (if (r_4 &&& (1 : Int32)) = 0 then (zz_bd (ME_put_f x1 (r_4 + (1 : Int32)) s_3) fun _ s_5 => (zz_gd (zz_in v_2 12) (zz_nm (zz_ap s_5 3 v_2.toNatClampNeg (3 : Int32)) fun s_6 => (some ((), s_6))))) else (some ((), s_3))) else (some ((), s_3)))))))))
set_option maxRecDepth 100000 in
set_option maxHeartbeats 4000000 in
theorem ME_makeOdd_w {l : Launch} {D : va_G} {ad : Nat → Nat} {cA : Nat → ClassId} {tb : Nat} {E : zz_E} (hV : zz_ok (zc_V l D ad cA tb)) (h : zz_X (zc_V l D ad cA tb) E "FrameProcessor$Memory" prog_4_method_14_code 5 zt_T 1 23 none) (x1 : Int32) (st : zz_S) : zz_Z (zc_V l D ad cA tb) E 5 0 0 (zz_q (zc_V l D ad cA tb) E zz_jv) (ME_makeOdd_f x1 st) 0 [(0, .ref (ad 1)), (1, .int x1)] [] st := by
  unfold ME_makeOdd_f
  refine zz_iload_n h dME_makeOdd_0 rfl ?_
  refine zz_bipush (v := 8) h dME_makeOdd_1 zz_lb_8 ?_
  refine zz_ishr h dME_makeOdd_3 ?_
  refine zz_bipush (v := 15) h dME_makeOdd_4 zz_lb_15 ?_
  refine zz_iand h dME_makeOdd_6 ?_
  refine zz_topi (fun v_1 => ?_)
  refine zz_istore_n h dME_makeOdd_7 (Nat.le_of_ble_eq_true rfl) ?_
  refine zz_aload_n h dME_makeOdd_8 rfl ?_
  refine zc_g_ME_reals h zi_ME zf_ME_15 dME_makeOdd_9 ?_
  refine zz_iload_n h dME_makeOdd_12 rfl ?_
  refine zc_ld_8 h dME_makeOdd_13 ?_
  refine zz_topi (fun v_2 => ?_)
  refine zz_istore_n h dME_makeOdd_14 (Nat.le_of_ble_eq_true rfl) ?_
  refine zz_aload_n h dME_makeOdd_15 rfl ?_
  refine zz_iload_n h dME_makeOdd_16 rfl ?_
  refine zz_callV1i h 1 rfl rfl (ME_look_c hV _ _) ME_look_k zm_ME_32 rfl rfl ⟨Nat.le_of_ble_eq_true rfl, Nat.le_of_ble_eq_true rfl⟩ (Nat.le_of_ble_eq_true rfl) dME_makeOdd_17 (fun r_4 s_3 => ?_)
  refine zz_istore h dME_makeOdd_20 (Nat.le_of_ble_eq_true rfl) ?_
  refine zz_iload_n h dME_makeOdd_22 rfl ?_
  refine zz_iconst (v := -1) h dME_makeOdd_23 zz_li_m1 ?_
  refine zz_icmp_eq h 43 dME_makeOdd_24 rfl ?_ ?_
  · exact zz_vret h dME_makeOdd_43
  · refine zz_aload_n h dME_makeOdd_27 rfl ?_
    refine zc_g_ME_guarded h zi_ME zf_ME_18 dME_makeOdd_28 ?_
    refine zz_iload_n h dME_makeOdd_31 rfl ?_
    refine zc_ld_9 h dME_makeOdd_32 ?_
    refine zz_if_ne h 43 dME_makeOdd_33 rfl ?_ ?_
    · refine zz_iload h dME_makeOdd_36 rfl ?_
      refine zz_iconst (v := 1) h dME_makeOdd_38 zz_li_1 ?_
      refine zz_iand h dME_makeOdd_39 ?_
      refine zz_if_eq h 44 dME_makeOdd_40 rfl ?_ ?_
      · refine zz_aload_n h dME_makeOdd_44 rfl ?_
        refine zz_iload_n h dME_makeOdd_45 rfl ?_
        refine zz_iload h dME_makeOdd_46 rfl ?_
        refine zz_iconst (v := 1) h dME_makeOdd_48 zz_li_1 ?_
        refine zz_iadd h dME_makeOdd_49 ?_
        refine zz_callV2v h 1 rfl rfl (ME_put_c hV _ _ _) ME_put_k zm_ME_36 rfl rfl ⟨Nat.le_of_ble_eq_true rfl, Nat.le_of_ble_eq_true rfl⟩ (Nat.le_of_ble_eq_true rfl) dME_makeOdd_50 (fun _ s_5 => ?_)
        refine zz_aload_n h dME_makeOdd_53 rfl ?_
        refine zc_g_ME_notes h zi_ME zf_ME_22 dME_makeOdd_54 ?_
        refine zz_iload_n h dME_makeOdd_57 rfl ?_
        refine zz_iconst (v := 3) h dME_makeOdd_58 zz_li_3 ?_
        refine zc_st_10 h dME_makeOdd_59 (fun s_6 => ?_)
        exact zz_vret h dME_makeOdd_60
      · exact zz_vret h dME_makeOdd_43
    · exact zz_vret h dME_makeOdd_43
theorem ME_makeOdd_c {l : Launch} {D : va_G} {ad : Nat → Nat} {cA : Nat → ClassId} {tb : Nat} (hV : zz_ok (zc_V l D ad cA tb)) (x1 : Int32) (st : zz_S) : zz_C (zc_V l D ad cA tb) yME_makeOdd (Cond.code yME_makeOdd prog_4_method_14_code 5 none :: zt_T) { frames := 1, cells := 0, slots := 0, locals := 23 } zz_jv [.ref (ad 1), .int x1] st (ME_makeOdd_f x1 st) := zz_met hV (by decide +kernel) rfl (Nat.le_of_ble_eq_true rfl) rfl (fun E h => ME_makeOdd_w hV h x1 st)
def RO_leastTimeout_35 (k4 : Int32 → Int32 → zz_S → Option (Int32 × zz_S)) (x1 : Int32) (x2 : Int32) (st : zz_S) : Option (Int32 × zz_S) := (k4 x1 (x2 + (1 : Int32)) st)
def RO_leastTimeout_33 (k4 : Int32 → Int32 → zz_S → Option (Int32 × zz_S)) (x2 : Int32) (x3 : Int32) (st : zz_S) : Option (Int32 × zz_S) := (RO_leastTimeout_35 k4 x3 x2 st)
def RO_leastTimeout_4b (k4 : Int32 → Int32 → zz_S → Option (Int32 × zz_S)) (x1 : Int32) (x2 : Int32) (st : zz_S) : Option (Int32 × zz_S) := (if (6 : Int32) ≤ x2 then (some (x1, st)) else (zz_gd (zz_in x2 6) (zz_nm x2.toNatClampNeg fun t_1 => (zz_nm (zz_ag st 12 t_1) fun v_2 => (if v_2 ≤ 0 then (RO_leastTimeout_35 k4 x1 x2 st) else (if x1 = 0 then (RO_leastTimeout_33 k4 x2 v_2 st) else (if x1 ≤ v_2 then (RO_leastTimeout_35 k4 x1 x2 st) else (RO_leastTimeout_33 k4 x2 v_2 st))))))))
def RO_leastTimeout_4 : Nat → Int32 → Int32 → zz_S → Option (Int32 × zz_S)
  | 0 => fun _ _ _ => none
  | n + 1 => RO_leastTimeout_4b (RO_leastTimeout_4 n)
def RO_leastTimeout_f (st : zz_S) : Option (Int32 × zz_S) := (RO_leastTimeout_4 10 (0 : Int32) (0 : Int32) st)
set_option maxRecDepth 100000 in
set_option maxHeartbeats 4000000 in
theorem RO_leastTimeout_35_w {l : Launch} {D : va_G} {ad : Nat → Nat} {cA : Nat → ClassId} {tb : Nat} {E : zz_E} (hV : zz_ok (zc_V l D ad cA tb)) (h : zz_X (zc_V l D ad cA tb) E "FrameProcessor$Roster" prog_6_method_16_code 4 zt_T 0 0 (some .int)) {k4 : Int32 → Int32 → zz_S → Option (Int32 × zz_S)} (hk4 : ∀ (x1 : Int32) (x2 : Int32) (st : zz_S), zz_Z (zc_V l D ad cA tb) E 4 0 0 (zz_q (zc_V l D ad cA tb) E zz_ji) (k4 x1 x2 st) 4 [(0, .ref (ad 2)), (1, .int x1), (2, .int x2)] [] st) (x1 : Int32) (x2 : Int32) (st : zz_S) : zz_Z (zc_V l D ad cA tb) E 4 0 0 (zz_q (zc_V l D ad cA tb) E zz_ji) (RO_leastTimeout_35 k4 x1 x2 st) 35 [(0, .ref (ad 2)), (1, .int x1), (2, .int x2)] [] st := by
  unfold RO_leastTimeout_35
  refine zz_iinc h (1 : Int32) dRO_leastTimeout_35 zz_li_1 rfl (Nat.le_of_ble_eq_true rfl) ?_
  refine zz_goto h 4 dRO_leastTimeout_38 rfl ?_
  exact zz_sub (hk4 _ _ _) rfl
set_option maxRecDepth 100000 in
set_option maxHeartbeats 4000000 in
theorem RO_leastTimeout_33_w {l : Launch} {D : va_G} {ad : Nat → Nat} {cA : Nat → ClassId} {tb : Nat} {E : zz_E} (hV : zz_ok (zc_V l D ad cA tb)) (h : zz_X (zc_V l D ad cA tb) E "FrameProcessor$Roster" prog_6_method_16_code 4 zt_T 0 0 (some .int)) {k4 : Int32 → Int32 → zz_S → Option (Int32 × zz_S)} (hk4 : ∀ (x1 : Int32) (x2 : Int32) (st : zz_S), zz_Z (zc_V l D ad cA tb) E 4 0 0 (zz_q (zc_V l D ad cA tb) E zz_ji) (k4 x1 x2 st) 4 [(0, .ref (ad 2)), (1, .int x1), (2, .int x2)] [] st) (x2 : Int32) (x3 : Int32) (st : zz_S) : zz_Z (zc_V l D ad cA tb) E 4 0 0 (zz_q (zc_V l D ad cA tb) E zz_ji) (RO_leastTimeout_33 k4 x2 x3 st) 33 [(0, .ref (ad 2)), (2, .int x2), (3, .int x3)] [] st := by
  unfold RO_leastTimeout_33
  refine zz_iload_n h dRO_leastTimeout_33 rfl ?_
  refine zz_istore_n h dRO_leastTimeout_34 (Nat.le_of_ble_eq_true rfl) ?_
  exact zz_sub (RO_leastTimeout_35_w hV h hk4 _ _ _) rfl
set_option maxRecDepth 100000 in
set_option maxHeartbeats 4000000 in
theorem RO_leastTimeout_4b_w {l : Launch} {D : va_G} {ad : Nat → Nat} {cA : Nat → ClassId} {tb : Nat} {E : zz_E} (hV : zz_ok (zc_V l D ad cA tb)) (h : zz_X (zc_V l D ad cA tb) E "FrameProcessor$Roster" prog_6_method_16_code 4 zt_T 0 0 (some .int)) {k4 : Int32 → Int32 → zz_S → Option (Int32 × zz_S)} (hk4 : ∀ (x1 : Int32) (x2 : Int32) (st : zz_S), zz_Z (zc_V l D ad cA tb) E 4 0 0 (zz_q (zc_V l D ad cA tb) E zz_ji) (k4 x1 x2 st) 4 [(0, .ref (ad 2)), (1, .int x1), (2, .int x2)] [] st) (x1 : Int32) (x2 : Int32) (st : zz_S) : zz_Z (zc_V l D ad cA tb) E 4 0 0 (zz_q (zc_V l D ad cA tb) E zz_ji) (RO_leastTimeout_4b k4 x1 x2 st) 4 [(0, .ref (ad 2)), (1, .int x1), (2, .int x2)] [] st := by
  unfold RO_leastTimeout_4b
  refine zz_iload_n h dRO_leastTimeout_4 rfl ?_
  refine zz_bipush (v := 6) h dRO_leastTimeout_5 zz_lb_6 ?_
  refine zz_icmp_ge h 41 dRO_leastTimeout_7 rfl ?_ ?_
  · refine zz_iload_n h dRO_leastTimeout_41 rfl ?_
    exact zz_iret h dRO_leastTimeout_42
  · refine zz_aload_n h dRO_leastTimeout_10 rfl ?_
    refine zc_g_RO_tasks h zi_RO zf_RO_13 dRO_leastTimeout_11 ?_
    refine zz_iload_n h dRO_leastTimeout_14 rfl ?_
    refine zc_ld_13 h dRO_leastTimeout_15 (fun t_1 ht_1 => ?_)
    refine zc_g_TA_timeout ht_1 h zi_TA zf_RO_65 dRO_leastTimeout_16 ?_
    refine zz_topi (fun v_2 => ?_)
    refine zz_istore_n h dRO_leastTimeout_19 (Nat.le_of_ble_eq_true rfl) ?_
    refine zz_iload_n h dRO_leastTimeout_20 rfl ?_
    refine zz_if_le h 35 dRO_leastTimeout_21 rfl ?_ ?_
    · exact zz_sub (RO_leastTimeout_35_w hV h hk4 _ _ _) rfl
    · refine zz_iload_n h dRO_leastTimeout_24 rfl ?_
      refine zz_if_eq h 33 dRO_leastTimeout_25 rfl ?_ ?_
      · exact zz_sub (RO_leastTimeout_33_w hV h hk4 _ _ _) rfl
      · refine zz_iload_n h dRO_leastTimeout_28 rfl ?_
        refine zz_iload_n h dRO_leastTimeout_29 rfl ?_
        refine zz_icmp_ge h 35 dRO_leastTimeout_30 rfl ?_ ?_
        · exact zz_sub (RO_leastTimeout_35_w hV h hk4 _ _ _) rfl
        · exact zz_sub (RO_leastTimeout_33_w hV h hk4 _ _ _) rfl
theorem RO_leastTimeout_4_w {l : Launch} {D : va_G} {ad : Nat → Nat} {cA : Nat → ClassId} {tb : Nat} {E : zz_E} (hV : zz_ok (zc_V l D ad cA tb)) (h : zz_X (zc_V l D ad cA tb) E "FrameProcessor$Roster" prog_6_method_16_code 4 zt_T 0 0 (some .int)) : ∀ (n : Nat) (x1 : Int32) (x2 : Int32) (st : zz_S), zz_Z (zc_V l D ad cA tb) E 4 0 0 (zz_q (zc_V l D ad cA tb) E zz_ji) (RO_leastTimeout_4 n x1 x2 st) 4 [(0, .ref (ad 2)), (1, .int x1), (2, .int x2)] [] st
  | 0, _, _, _ => zz_none
  | n + 1, x1, x2, st => RO_leastTimeout_4b_w hV h (RO_leastTimeout_4_w hV h n) x1 x2 st
set_option maxRecDepth 100000 in
set_option maxHeartbeats 4000000 in
theorem RO_leastTimeout_w {l : Launch} {D : va_G} {ad : Nat → Nat} {cA : Nat → ClassId} {tb : Nat} {E : zz_E} (hV : zz_ok (zc_V l D ad cA tb)) (h : zz_X (zc_V l D ad cA tb) E "FrameProcessor$Roster" prog_6_method_16_code 4 zt_T 0 0 (some .int)) (st : zz_S) : zz_Z (zc_V l D ad cA tb) E 4 0 0 (zz_q (zc_V l D ad cA tb) E zz_ji) (RO_leastTimeout_f  st) 0 [(0, .ref (ad 2))] [] st := by
  unfold RO_leastTimeout_f
  refine zz_iconst (v := 0) h dRO_leastTimeout_0 zz_li_0 ?_
  refine zz_istore_n h dRO_leastTimeout_1 (Nat.le_of_ble_eq_true rfl) ?_
  refine zz_iconst (v := 0) h dRO_leastTimeout_2 zz_li_0 ?_
  refine zz_istore_n h dRO_leastTimeout_3 (Nat.le_of_ble_eq_true rfl) ?_
  exact zz_sub (RO_leastTimeout_4_w hV h _ _ _ _) rfl
theorem RO_leastTimeout_c {l : Launch} {D : va_G} {ad : Nat → Nat} {cA : Nat → ClassId} {tb : Nat} (hV : zz_ok (zc_V l D ad cA tb)) (st : zz_S) : zz_C (zc_V l D ad cA tb) yRO_leastTimeout (Cond.code yRO_leastTimeout prog_6_method_16_code 4 (some .int) :: zt_T) { frames := 0, cells := 0, slots := 0, locals := 0 } zz_ji [.ref (ad 2)] st (RO_leastTimeout_f  st) := zz_met hV (by decide +kernel) rfl (Nat.le_of_ble_eq_true rfl) rfl (fun E h => RO_leastTimeout_w hV h  st)
def RO_lowerTimeouts_54 (k4 : Int32 → Int32 → Int32 → zz_S → Option (Int32 × zz_S)) (x1 : Int32) (x2 : Int32) (x3 : Int32) (st : zz_S) : Option (Int32 × zz_S) := (k4 x1 x2 (x3 + (1 : Int32)) st)
def RO_lowerTimeouts_4b (k4 : Int32 → Int32 → Int32 → zz_S → Option (Int32 × zz_S)) (x1 : Int32) (x2 : Int32) (x3 : Int32) (st : zz_S) : Option (Int32 × zz_S) := (if (6 : Int32) ≤ x3 then (some (x2, st)) else (zz_gd (zz_in x3 6) (zz_nm x3.toNatClampNeg fun t_1 => (if (zz_ag st 12 t_1) ≤ 0 then (RO_lowerTimeouts_54 k4 x1 x2 x3 st) else (zz_nm (zz_ap st 12 t_1 ((zz_ag st 12 t_1) - x1)) fun s_2 => (if (zz_ag s_2 12 t_1) = 0 then (zz_bd (RO_makeReady_f t_1 s_2) fun _ s_3 => (RO_lowerTimeouts_54 k4 x1 (x2 + (1 : Int32)) x3 s_3)) else (RO_lowerTimeouts_54 k4 x1 x2 x3 s_2)))))))
def RO_lowerTimeouts_4 : Nat → Int32 → Int32 → Int32 → zz_S → Option (Int32 × zz_S)
  | 0 => fun _ _ _ _ => none
  | n + 1 => RO_lowerTimeouts_4b (RO_lowerTimeouts_4 n)
def RO_lowerTimeouts_f (x1 : Int32) (st : zz_S) : Option (Int32 × zz_S) := (RO_lowerTimeouts_4 10 x1 (0 : Int32) (0 : Int32) st)
set_option maxRecDepth 100000 in
set_option maxHeartbeats 4000000 in
theorem RO_lowerTimeouts_54_w {l : Launch} {D : va_G} {ad : Nat → Nat} {cA : Nat → ClassId} {tb : Nat} {E : zz_E} (hV : zz_ok (zc_V l D ad cA tb)) (h : zz_X (zc_V l D ad cA tb) E "FrameProcessor$Roster" prog_6_method_17_code 5 zt_T 2 43 (some .int)) {k4 : Int32 → Int32 → Int32 → zz_S → Option (Int32 × zz_S)} (hk4 : ∀ (x1 : Int32) (x2 : Int32) (x3 : Int32) (st : zz_S), zz_Z (zc_V l D ad cA tb) E 5 0 0 (zz_q (zc_V l D ad cA tb) E zz_ji) (k4 x1 x2 x3 st) 4 [(0, .ref (ad 2)), (1, .int x1), (2, .int x2), (3, .int x3)] [] st) (x1 : Int32) (x2 : Int32) (x3 : Int32) (st : zz_S) : zz_Z (zc_V l D ad cA tb) E 5 0 0 (zz_q (zc_V l D ad cA tb) E zz_ji) (RO_lowerTimeouts_54 k4 x1 x2 x3 st) 54 [(0, .ref (ad 2)), (1, .int x1), (2, .int x2), (3, .int x3)] [] st := by
  unfold RO_lowerTimeouts_54
  refine zz_iinc h (1 : Int32) dRO_lowerTimeouts_54 zz_li_1 rfl (Nat.le_of_ble_eq_true rfl) ?_
  refine zz_goto h 4 dRO_lowerTimeouts_57 rfl ?_
  exact zz_sub (hk4 _ _ _ _) rfl
set_option maxRecDepth 100000 in
set_option maxHeartbeats 4000000 in
theorem RO_lowerTimeouts_4b_w {l : Launch} {D : va_G} {ad : Nat → Nat} {cA : Nat → ClassId} {tb : Nat} {E : zz_E} (hV : zz_ok (zc_V l D ad cA tb)) (h : zz_X (zc_V l D ad cA tb) E "FrameProcessor$Roster" prog_6_method_17_code 5 zt_T 2 43 (some .int)) {k4 : Int32 → Int32 → Int32 → zz_S → Option (Int32 × zz_S)} (hk4 : ∀ (x1 : Int32) (x2 : Int32) (x3 : Int32) (st : zz_S), zz_Z (zc_V l D ad cA tb) E 5 0 0 (zz_q (zc_V l D ad cA tb) E zz_ji) (k4 x1 x2 x3 st) 4 [(0, .ref (ad 2)), (1, .int x1), (2, .int x2), (3, .int x3)] [] st) (x1 : Int32) (x2 : Int32) (x3 : Int32) (st : zz_S) : zz_Z (zc_V l D ad cA tb) E 5 0 0 (zz_q (zc_V l D ad cA tb) E zz_ji) (RO_lowerTimeouts_4b k4 x1 x2 x3 st) 4 [(0, .ref (ad 2)), (1, .int x1), (2, .int x2), (3, .int x3)] [] st := by
  unfold RO_lowerTimeouts_4b
  refine zz_iload_n h dRO_lowerTimeouts_4 rfl ?_
  refine zz_bipush (v := 6) h dRO_lowerTimeouts_5 zz_lb_6 ?_
  refine zz_icmp_ge h 60 dRO_lowerTimeouts_7 rfl ?_ ?_
  · refine zz_iload_n h dRO_lowerTimeouts_60 rfl ?_
    exact zz_iret h dRO_lowerTimeouts_61
  · refine zz_aload_n h dRO_lowerTimeouts_10 rfl ?_
    refine zc_g_RO_tasks h zi_RO zf_RO_13 dRO_lowerTimeouts_11 ?_
    refine zz_iload_n h dRO_lowerTimeouts_14 rfl ?_
    refine zc_ld_13 h dRO_lowerTimeouts_15 (fun t_1 ht_1 => ?_)
    refine zz_astore h dRO_lowerTimeouts_16 (Nat.le_of_ble_eq_true rfl) ?_
    refine zz_aload h dRO_lowerTimeouts_18 rfl ?_
    refine zc_g_TA_timeout ht_1 h zi_TA zf_RO_65 dRO_lowerTimeouts_20 ?_
    refine zz_if_le h 54 dRO_lowerTimeouts_23 rfl ?_ ?_
    · exact zz_sub (RO_lowerTimeouts_54_w hV h hk4 _ _ _ _) rfl
    · refine zz_aload h dRO_lowerTimeouts_26 rfl ?_
      refine zz_dup h dRO_lowerTimeouts_28 rfl ?_
      refine zc_g_TA_timeout ht_1 h zi_TA zf_RO_65 dRO_lowerTimeouts_29 ?_
      refine zz_iload_n h dRO_lowerTimeouts_32 rfl ?_
      refine zz_isub h dRO_lowerTimeouts_33 ?_
      refine zc_p_TA_timeout ht_1 h zi_TA zf_RO_65 dRO_lowerTimeouts_34 (fun s_2 => ?_)
      refine zz_aload h dRO_lowerTimeouts_37 rfl ?_
      refine zc_g_TA_timeout ht_1 h zi_TA zf_RO_65 dRO_lowerTimeouts_39 ?_
      refine zz_if_ne h 54 dRO_lowerTimeouts_42 rfl ?_ ?_
      · refine zz_aload_n h dRO_lowerTimeouts_45 rfl ?_
        refine zz_aload h dRO_lowerTimeouts_46 rfl ?_
        refine zz_callV1v h 2 rfl rfl (RO_makeReady_c hV _ ht_1 _) RO_makeReady_k zm_RO_58 rfl rfl ⟨Nat.le_of_ble_eq_true rfl, Nat.le_of_ble_eq_true rfl⟩ (Nat.le_of_ble_eq_true rfl) dRO_lowerTimeouts_48 (fun _ s_3 => ?_)
        refine zz_iinc h (1 : Int32) dRO_lowerTimeouts_51 zz_li_1 rfl (Nat.le_of_ble_eq_true rfl) ?_
        exact zz_sub (RO_lowerTimeouts_54_w hV h hk4 _ _ _ _) rfl
      · exact zz_sub (RO_lowerTimeouts_54_w hV h hk4 _ _ _ _) rfl
theorem RO_lowerTimeouts_4_w {l : Launch} {D : va_G} {ad : Nat → Nat} {cA : Nat → ClassId} {tb : Nat} {E : zz_E} (hV : zz_ok (zc_V l D ad cA tb)) (h : zz_X (zc_V l D ad cA tb) E "FrameProcessor$Roster" prog_6_method_17_code 5 zt_T 2 43 (some .int)) : ∀ (n : Nat) (x1 : Int32) (x2 : Int32) (x3 : Int32) (st : zz_S), zz_Z (zc_V l D ad cA tb) E 5 0 0 (zz_q (zc_V l D ad cA tb) E zz_ji) (RO_lowerTimeouts_4 n x1 x2 x3 st) 4 [(0, .ref (ad 2)), (1, .int x1), (2, .int x2), (3, .int x3)] [] st
  | 0, _, _, _, _ => zz_none
  | n + 1, x1, x2, x3, st => RO_lowerTimeouts_4b_w hV h (RO_lowerTimeouts_4_w hV h n) x1 x2 x3 st
set_option maxRecDepth 100000 in
set_option maxHeartbeats 4000000 in
theorem RO_lowerTimeouts_w {l : Launch} {D : va_G} {ad : Nat → Nat} {cA : Nat → ClassId} {tb : Nat} {E : zz_E} (hV : zz_ok (zc_V l D ad cA tb)) (h : zz_X (zc_V l D ad cA tb) E "FrameProcessor$Roster" prog_6_method_17_code 5 zt_T 2 43 (some .int)) (x1 : Int32) (st : zz_S) : zz_Z (zc_V l D ad cA tb) E 5 0 0 (zz_q (zc_V l D ad cA tb) E zz_ji) (RO_lowerTimeouts_f x1 st) 0 [(0, .ref (ad 2)), (1, .int x1)] [] st := by
  unfold RO_lowerTimeouts_f
  refine zz_iconst (v := 0) h dRO_lowerTimeouts_0 zz_li_0 ?_
  refine zz_istore_n h dRO_lowerTimeouts_1 (Nat.le_of_ble_eq_true rfl) ?_
  refine zz_iconst (v := 0) h dRO_lowerTimeouts_2 zz_li_0 ?_
  refine zz_istore_n h dRO_lowerTimeouts_3 (Nat.le_of_ble_eq_true rfl) ?_
  exact zz_sub (RO_lowerTimeouts_4_w hV h _ _ _ _ _) rfl
theorem RO_lowerTimeouts_c {l : Launch} {D : va_G} {ad : Nat → Nat} {cA : Nat → ClassId} {tb : Nat} (hV : zz_ok (zc_V l D ad cA tb)) (x1 : Int32) (st : zz_S) : zz_C (zc_V l D ad cA tb) yRO_lowerTimeouts (Cond.code yRO_lowerTimeouts prog_6_method_17_code 5 (some .int) :: zt_T) { frames := 2, cells := 0, slots := 0, locals := 43 } zz_ji [.ref (ad 2), .int x1] st (RO_lowerTimeouts_f x1 st) := zz_met hV (by decide +kernel) rfl (Nat.le_of_ble_eq_true rfl) rfl (fun E h => RO_lowerTimeouts_w hV h x1 st)
def RO_passTicks_54 (x2 : Int32) (x3 : Int32) (st : zz_S) : Option (Int32 × zz_S) := (zz_bd (RO_lowerTimeouts_f x2 st) fun r_2 s_1 => (some ((x3 + r_2), s_1)))
def RO_passTicks_7b (k7 : Int32 → Int32 → Int32 → zz_S → Option (Int32 × zz_S)) (x2 : Int32) (x3 : Int32) (x4 : Int32) (st : zz_S) : Option (Int32 × zz_S) := (if (6 : Int32) ≤ x4 then (RO_passTicks_54 x2 x3 st) else (zz_bd (RO_leastTimeout_f st) fun r_4 s_3 => (if r_4 = 0 then (RO_passTicks_54 x2 x3 s_3) else (if r_4 ≤ x2 then (zz_bd (RO_lowerTimeouts_f r_4 s_3) fun r_6 s_5 => (zz_nm (x3 + r_6) fun v_7 => (zz_nm (x2 - r_4) fun v_8 => (k7 v_8 v_7 (x4 + (1 : Int32)) s_5)))) else (RO_passTicks_54 x2 x3 s_3)))))
def RO_passTicks_7 : Nat → Int32 → Int32 → Int32 → zz_S → Option (Int32 × zz_S)
  | 0 => fun _ _ _ _ => none
  | n + 1 => RO_passTicks_7b (RO_passTicks_7 n)
def RO_passTicks_f (x1 : Int32) (st : zz_S) : Option (Int32 × zz_S) := (RO_passTicks_7 10 x1 (0 : Int32) (0 : Int32) st)
set_option maxRecDepth 100000 in
set_option maxHeartbeats 4000000 in
theorem RO_passTicks_54_w {l : Launch} {D : va_G} {ad : Nat → Nat} {cA : Nat → ClassId} {tb : Nat} {E : zz_E} (hV : zz_ok (zc_V l D ad cA tb)) (h : zz_X (zc_V l D ad cA tb) E "FrameProcessor$Roster" prog_6_method_15_code 6 zt_T 3 67 (some .int)) (x2 : Int32) (x3 : Int32) (st : zz_S) : zz_Z (zc_V l D ad cA tb) E 6 0 0 (zz_q (zc_V l D ad cA tb) E zz_ji) (RO_passTicks_54 x2 x3 st) 54 [(0, .ref (ad 2)), (2, .int x2), (3, .int x3)] [] st := by
  unfold RO_passTicks_54
  refine zz_iload_n h dRO_passTicks_54 rfl ?_
  refine zz_aload_n h dRO_passTicks_55 rfl ?_
  refine zz_iload_n h dRO_passTicks_56 rfl ?_
  refine zz_callV1i h 2 rfl rfl (RO_lowerTimeouts_c hV _ _) RO_lowerTimeouts_k zm_RO_78 rfl rfl ⟨Nat.le_of_ble_eq_true rfl, Nat.le_of_ble_eq_true rfl⟩ (Nat.le_of_ble_eq_true rfl) dRO_passTicks_57 (fun r_2 s_1 => ?_)
  refine zz_iadd h dRO_passTicks_60 ?_
  exact zz_iret h dRO_passTicks_61
set_option maxRecDepth 100000 in
set_option maxHeartbeats 4000000 in
theorem RO_passTicks_7b_w {l : Launch} {D : va_G} {ad : Nat → Nat} {cA : Nat → ClassId} {tb : Nat} {E : zz_E} (hV : zz_ok (zc_V l D ad cA tb)) (h : zz_X (zc_V l D ad cA tb) E "FrameProcessor$Roster" prog_6_method_15_code 6 zt_T 3 67 (some .int)) {k7 : Int32 → Int32 → Int32 → zz_S → Option (Int32 × zz_S)} (hk7 : ∀ (x2 : Int32) (x3 : Int32) (x4 : Int32) (st : zz_S), zz_Z (zc_V l D ad cA tb) E 6 0 0 (zz_q (zc_V l D ad cA tb) E zz_ji) (k7 x2 x3 x4 st) 7 [(0, .ref (ad 2)), (2, .int x2), (3, .int x3), (4, .int x4)] [] st) (x2 : Int32) (x3 : Int32) (x4 : Int32) (st : zz_S) : zz_Z (zc_V l D ad cA tb) E 6 0 0 (zz_q (zc_V l D ad cA tb) E zz_ji) (RO_passTicks_7b k7 x2 x3 x4 st) 7 [(0, .ref (ad 2)), (2, .int x2), (3, .int x3), (4, .int x4)] [] st := by
  unfold RO_passTicks_7b
  refine zz_iload h dRO_passTicks_7 rfl ?_
  refine zz_bipush (v := 6) h dRO_passTicks_9 zz_lb_6 ?_
  refine zz_icmp_ge h 54 dRO_passTicks_11 rfl ?_ ?_
  · exact zz_sub (RO_passTicks_54_w hV h _ _ _) rfl
  · refine zz_aload_n h dRO_passTicks_14 rfl ?_
    refine zz_callV0i h 2 rfl rfl (RO_leastTimeout_c hV _) RO_leastTimeout_k zm_RO_75 rfl rfl ⟨Nat.le_of_ble_eq_true rfl, Nat.le_of_ble_eq_true rfl⟩ (Nat.le_of_ble_eq_true rfl) dRO_passTicks_15 (fun r_4 s_3 => ?_)
    refine zz_istore h dRO_passTicks_18 (Nat.le_of_ble_eq_true rfl) ?_
    refine zz_iload h dRO_passTicks_20 rfl ?_
    refine zz_if_eq h 54 dRO_passTicks_22 rfl ?_ ?_
    · exact zz_sub (RO_passTicks_54_w hV h _ _ _) rfl
    · refine zz_iload h dRO_passTicks_25 rfl ?_
      refine zz_iload_n h dRO_passTicks_27 rfl ?_
      refine zz_icmp_le h 34 dRO_passTicks_28 rfl ?_ ?_
      · refine zz_iload_n h dRO_passTicks_34 rfl ?_
        refine zz_aload_n h dRO_passTicks_35 rfl ?_
        refine zz_iload h dRO_passTicks_36 rfl ?_
        refine zz_callV1i h 2 rfl rfl (RO_lowerTimeouts_c hV _ _) RO_lowerTimeouts_k zm_RO_78 rfl rfl ⟨Nat.le_of_ble_eq_true rfl, Nat.le_of_ble_eq_true rfl⟩ (Nat.le_of_ble_eq_true rfl) dRO_passTicks_38 (fun r_6 s_5 => ?_)
        refine zz_iadd h dRO_passTicks_41 ?_
        refine zz_topi (fun v_7 => ?_)
        refine zz_istore_n h dRO_passTicks_42 (Nat.le_of_ble_eq_true rfl) ?_
        refine zz_iload_n h dRO_passTicks_43 rfl ?_
        refine zz_iload h dRO_passTicks_44 rfl ?_
        refine zz_isub h dRO_passTicks_46 ?_
        refine zz_topi (fun v_8 => ?_)
        refine zz_istore_n h dRO_passTicks_47 (Nat.le_of_ble_eq_true rfl) ?_
        refine zz_iinc h (1 : Int32) dRO_passTicks_48 zz_li_1 rfl (Nat.le_of_ble_eq_true rfl) ?_
        refine zz_goto h 7 dRO_passTicks_51 rfl ?_
        exact zz_sub (hk7 _ _ _ _) rfl
      · refine zz_goto h 54 dRO_passTicks_31 rfl ?_
        exact zz_sub (RO_passTicks_54_w hV h _ _ _) rfl
theorem RO_passTicks_7_w {l : Launch} {D : va_G} {ad : Nat → Nat} {cA : Nat → ClassId} {tb : Nat} {E : zz_E} (hV : zz_ok (zc_V l D ad cA tb)) (h : zz_X (zc_V l D ad cA tb) E "FrameProcessor$Roster" prog_6_method_15_code 6 zt_T 3 67 (some .int)) : ∀ (n : Nat) (x2 : Int32) (x3 : Int32) (x4 : Int32) (st : zz_S), zz_Z (zc_V l D ad cA tb) E 6 0 0 (zz_q (zc_V l D ad cA tb) E zz_ji) (RO_passTicks_7 n x2 x3 x4 st) 7 [(0, .ref (ad 2)), (2, .int x2), (3, .int x3), (4, .int x4)] [] st
  | 0, _, _, _, _ => zz_none
  | n + 1, x2, x3, x4, st => RO_passTicks_7b_w hV h (RO_passTicks_7_w hV h n) x2 x3 x4 st
set_option maxRecDepth 100000 in
set_option maxHeartbeats 4000000 in
theorem RO_passTicks_w {l : Launch} {D : va_G} {ad : Nat → Nat} {cA : Nat → ClassId} {tb : Nat} {E : zz_E} (hV : zz_ok (zc_V l D ad cA tb)) (h : zz_X (zc_V l D ad cA tb) E "FrameProcessor$Roster" prog_6_method_15_code 6 zt_T 3 67 (some .int)) (x1 : Int32) (st : zz_S) : zz_Z (zc_V l D ad cA tb) E 6 0 0 (zz_q (zc_V l D ad cA tb) E zz_ji) (RO_passTicks_f x1 st) 0 [(0, .ref (ad 2)), (1, .int x1)] [] st := by
  unfold RO_passTicks_f
  refine zz_iload_n h dRO_passTicks_0 rfl ?_
  refine zz_istore_n h dRO_passTicks_1 (Nat.le_of_ble_eq_true rfl) ?_
  refine zz_iconst (v := 0) h dRO_passTicks_2 zz_li_0 ?_
  refine zz_istore_n h dRO_passTicks_3 (Nat.le_of_ble_eq_true rfl) ?_
  refine zz_iconst (v := 0) h dRO_passTicks_4 zz_li_0 ?_
  refine zz_istore h dRO_passTicks_5 (Nat.le_of_ble_eq_true rfl) ?_
  exact zz_sub (RO_passTicks_7_w hV h _ _ _ _ _) rfl
theorem RO_passTicks_c {l : Launch} {D : va_G} {ad : Nat → Nat} {cA : Nat → ClassId} {tb : Nat} (hV : zz_ok (zc_V l D ad cA tb)) (x1 : Int32) (st : zz_S) : zz_C (zc_V l D ad cA tb) yRO_passTicks (Cond.code yRO_passTicks prog_6_method_15_code 6 (some .int) :: zt_T) { frames := 3, cells := 0, slots := 0, locals := 67 } zz_ji [.ref (ad 2), .int x1] st (RO_passTicks_f x1 st) := zz_met hV (by decide +kernel) rfl (Nat.le_of_ble_eq_true rfl) rfl (fun E h => RO_passTicks_w hV h x1 st)
