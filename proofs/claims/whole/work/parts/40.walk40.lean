def TA_goesAhead_f (t0 : Nat) (t1 : Nat) (st : zz_S) : Option (Int32 × zz_S) := (if (zz_ag st 8 t0) = (zz_ag st 8 t1) then (if (zz_ag st 14 t1) ≤ (zz_ag st 14 t0) then (some ((0 : Int32), st)) else (some ((1 : Int32), st))) else (if (zz_ag st 8 t0) ≤ (zz_ag st 8 t1) then (some ((0 : Int32), st)) else (some ((1 : Int32), st))))
set_option maxRecDepth 100000 in
set_option maxHeartbeats 4000000 in
theorem TA_goesAhead_w {l : Launch} {D : va_G} {ad : Nat → Nat} {cA : Nat → ClassId} {tb : Nat} {E : zz_E} (hV : zz_ok (zc_V l D ad cA tb)) (h : zz_X (zc_V l D ad cA tb) E "FrameProcessor$Task" prog_7_method_5_code 2 zt_T 0 0 (some .boolean)) (t0 : Nat) (ht0 : t0 < 6) (t1 : Nat) (ht1 : t1 < 6) (st : zz_S) : zz_Z (zc_V l D ad cA tb) E 2 0 0 (zz_q (zc_V l D ad cA tb) E zz_ji) (TA_goesAhead_f t0 t1 st) 0 [(0, .ref (ad (15 + t0))), (1, .ref (ad (15 + t1)))] [] st := by
  unfold TA_goesAhead_f
  refine zz_aload_n h dTA_goesAhead_0 rfl ?_
  refine zc_g_TA_priority ht0 h zi_TA zf_TA_26 dTA_goesAhead_1 ?_
  refine zz_aload_n h dTA_goesAhead_4 rfl ?_
  refine zc_g_TA_priority ht1 h zi_TA zf_TA_26 dTA_goesAhead_5 ?_
  refine zz_icmp_eq h 30 dTA_goesAhead_8 rfl ?_ ?_
  · refine zz_aload_n h dTA_goesAhead_30 rfl ?_
    refine zc_g_TA_since ht0 h zi_TA zf_TA_38 dTA_goesAhead_31 ?_
    refine zz_aload_n h dTA_goesAhead_34 rfl ?_
    refine zc_g_TA_since ht1 h zi_TA zf_TA_38 dTA_goesAhead_35 ?_
    refine zz_icmp_ge h 45 dTA_goesAhead_38 rfl ?_ ?_
    · refine zz_iconst (v := 0) h dTA_goesAhead_45 zz_li_0 ?_
      exact zz_zret h dTA_goesAhead_46 (by decide +kernel)
    · refine zz_iconst (v := 1) h dTA_goesAhead_41 zz_li_1 ?_
      refine zz_goto h 46 dTA_goesAhead_42 rfl ?_
      exact zz_zret h dTA_goesAhead_46 (by decide +kernel)
  · refine zz_aload_n h dTA_goesAhead_11 rfl ?_
    refine zc_g_TA_priority ht0 h zi_TA zf_TA_26 dTA_goesAhead_12 ?_
    refine zz_aload_n h dTA_goesAhead_15 rfl ?_
    refine zc_g_TA_priority ht1 h zi_TA zf_TA_26 dTA_goesAhead_16 ?_
    refine zz_icmp_le h 26 dTA_goesAhead_19 rfl ?_ ?_
    · refine zz_iconst (v := 0) h dTA_goesAhead_26 zz_li_0 ?_
      refine zz_goto h 46 dTA_goesAhead_27 rfl ?_
      exact zz_zret h dTA_goesAhead_46 (by decide +kernel)
    · refine zz_iconst (v := 1) h dTA_goesAhead_22 zz_li_1 ?_
      refine zz_goto h 46 dTA_goesAhead_23 rfl ?_
      exact zz_zret h dTA_goesAhead_46 (by decide +kernel)
theorem TA_goesAhead_c {l : Launch} {D : va_G} {ad : Nat → Nat} {cA : Nat → ClassId} {tb : Nat} (hV : zz_ok (zc_V l D ad cA tb)) (t0 : Nat) (ht0 : t0 < 6) (t1 : Nat) (ht1 : t1 < 6) (st : zz_S) : zz_C (zc_V l D ad cA tb) yTA_goesAhead (Cond.code yTA_goesAhead prog_7_method_5_code 2 (some .boolean) :: zt_T) { frames := 0, cells := 0, slots := 0, locals := 0 } zz_ji [.ref (ad (15 + t0)), .ref (ad (15 + t1))] st (TA_goesAhead_f t0 t1 st) := zz_met hV (by decide +kernel) rfl (Nat.le_of_ble_eq_true rfl) rfl (fun E h => TA_goesAhead_w hV h t0 ht0 t1 ht1 st)
def RO_firstAt_67 (k5 : Int32 → Int32 → Option Nat → Int32 → zz_S → Option (Option Nat × zz_S)) (x1 : Int32) (x2 : Int32) (q3 : Option Nat) (x4 : Int32) (st : zz_S) : Option (Option Nat × zz_S) := (k5 x1 x2 q3 (x4 + (1 : Int32)) st)
def RO_firstAt_64 (k5 : Int32 → Int32 → Option Nat → Int32 → zz_S → Option (Option Nat × zz_S)) (x1 : Int32) (x2 : Int32) (x4 : Int32) (t5 : Nat) (st : zz_S) : Option (Option Nat × zz_S) := (RO_firstAt_67 k5 x1 x2 (some t5) x4 st)
def RO_firstAt_44 (k5 : Int32 → Int32 → Option Nat → Int32 → zz_S → Option (Option Nat × zz_S)) (x1 : Int32) (x2 : Int32) (q3 : Option Nat) (x4 : Int32) (t5 : Nat) (y0 : Int32) (st : zz_S) : Option (Option Nat × zz_S) := (if y0 = 0 then (RO_firstAt_67 k5 x1 x2 q3 x4 st) else (zz_oc q3 (RO_firstAt_64 k5 x1 x2 x4 t5 st) fun t_1 => zz_gd (Nat.blt t_1 6) (zz_bd (TA_goesAhead_f t5 t_1 st) fun r_4 s_3 => (if r_4 = 0 then (RO_firstAt_67 k5 x1 x2 (some t_1) x4 s_3) else (RO_firstAt_64 k5 x1 x2 x4 t5 s_3)))))
def RO_firstAt_43 (k5 : Int32 → Int32 → Option Nat → Int32 → zz_S → Option (Option Nat × zz_S)) (x1 : Int32) (x2 : Int32) (q3 : Option Nat) (x4 : Int32) (t5 : Nat) (st : zz_S) : Option (Option Nat × zz_S) := (RO_firstAt_44 k5 x1 x2 q3 x4 t5 (0 : Int32) st)
def RO_firstAt_5b (k5 : Int32 → Int32 → Option Nat → Int32 → zz_S → Option (Option Nat × zz_S)) (x1 : Int32) (x2 : Int32) (q3 : Option Nat) (x4 : Int32) (st : zz_S) : Option (Option Nat × zz_S) := (if (6 : Int32) ≤ x4 then (some ((q3 : Option Nat), st)) else (zz_gd (zz_in x4 6) (zz_nm x4.toNatClampNeg fun t_5 => (if (zz_ag st 7 t_5) = x1 then (if (zz_ag st 11 t_5) = x2 then (RO_firstAt_44 k5 x1 x2 q3 x4 t_5 (1 : Int32) st) else (RO_firstAt_43 k5 x1 x2 q3 x4 t_5 st)) else (RO_firstAt_43 k5 x1 x2 q3 x4 t_5 st)))))
def RO_firstAt_5 : Nat → Int32 → Int32 → Option Nat → Int32 → zz_S → Option (Option Nat × zz_S)
  | 0 => fun _ _ _ _ _ => none
  | n + 1 => RO_firstAt_5b (RO_firstAt_5 n)
def RO_firstAt_f (x1 : Int32) (x2 : Int32) (st : zz_S) : Option (Option Nat × zz_S) := (RO_firstAt_5 10 x1 x2 none (0 : Int32) st)
set_option maxRecDepth 100000 in
set_option maxHeartbeats 4000000 in
theorem RO_firstAt_67_w {l : Launch} {D : va_G} {ad : Nat → Nat} {cA : Nat → ClassId} {tb : Nat} {E : zz_E} (hV : zz_ok (zc_V l D ad cA tb)) (h : zz_X (zc_V l D ad cA tb) E "FrameProcessor$Roster" prog_6_method_5_code 7 zt_T 1 21 (some (.object "FrameProcessor$Task"))) {k5 : Int32 → Int32 → Option Nat → Int32 → zz_S → Option (Option Nat × zz_S)} (hk5 : ∀ (x1 : Int32) (x2 : Int32) (q3 : Option Nat) (x4 : Int32) (st : zz_S), zz_Z (zc_V l D ad cA tb) E 7 0 0 (zz_q (zc_V l D ad cA tb) E (zz_jq (fun t => ad (15 + t)))) (k5 x1 x2 q3 x4 st) 5 [(0, .ref (ad 2)), (1, .int x1), (2, .int x2), (3, zz_rf (fun t => ad (15 + t)) q3), (4, .int x4)] [] st) (x1 : Int32) (x2 : Int32) (q3 : Option Nat) (x4 : Int32) (st : zz_S) : zz_Z (zc_V l D ad cA tb) E 7 0 0 (zz_q (zc_V l D ad cA tb) E (zz_jq (fun t => ad (15 + t)))) (RO_firstAt_67 k5 x1 x2 q3 x4 st) 67 [(0, .ref (ad 2)), (1, .int x1), (2, .int x2), (3, zz_rf (fun t => ad (15 + t)) q3), (4, .int x4)] [] st := by
  unfold RO_firstAt_67
  refine zz_iinc h (1 : Int32) dRO_firstAt_67 zz_li_1 rfl (Nat.le_of_ble_eq_true rfl) ?_
  refine zz_goto h 5 dRO_firstAt_70 rfl ?_
  exact zz_sub (hk5 _ _ _ _ _) rfl
set_option maxRecDepth 100000 in
set_option maxHeartbeats 4000000 in
theorem RO_firstAt_64_w {l : Launch} {D : va_G} {ad : Nat → Nat} {cA : Nat → ClassId} {tb : Nat} {E : zz_E} (hV : zz_ok (zc_V l D ad cA tb)) (h : zz_X (zc_V l D ad cA tb) E "FrameProcessor$Roster" prog_6_method_5_code 7 zt_T 1 21 (some (.object "FrameProcessor$Task"))) {k5 : Int32 → Int32 → Option Nat → Int32 → zz_S → Option (Option Nat × zz_S)} (hk5 : ∀ (x1 : Int32) (x2 : Int32) (q3 : Option Nat) (x4 : Int32) (st : zz_S), zz_Z (zc_V l D ad cA tb) E 7 0 0 (zz_q (zc_V l D ad cA tb) E (zz_jq (fun t => ad (15 + t)))) (k5 x1 x2 q3 x4 st) 5 [(0, .ref (ad 2)), (1, .int x1), (2, .int x2), (3, zz_rf (fun t => ad (15 + t)) q3), (4, .int x4)] [] st) (x1 : Int32) (x2 : Int32) (x4 : Int32) (t5 : Nat) (ht5 : t5 < 6) (st : zz_S) : zz_Z (zc_V l D ad cA tb) E 7 0 0 (zz_q (zc_V l D ad cA tb) E (zz_jq (fun t => ad (15 + t)))) (RO_firstAt_64 k5 x1 x2 x4 t5 st) 64 [(0, .ref (ad 2)), (1, .int x1), (2, .int x2), (4, .int x4), (5, .ref (ad (15 + t5)))] [] st := by
  unfold RO_firstAt_64
  refine zz_aload h dRO_firstAt_64 rfl ?_
  refine zz_astore_n h dRO_firstAt_66 (Nat.le_of_ble_eq_true rfl) ?_
  exact zz_sub (RO_firstAt_67_w hV h hk5 _ _ _ _ _) rfl
set_option maxRecDepth 100000 in
set_option maxHeartbeats 4000000 in
theorem RO_firstAt_44_w {l : Launch} {D : va_G} {ad : Nat → Nat} {cA : Nat → ClassId} {tb : Nat} {E : zz_E} (hV : zz_ok (zc_V l D ad cA tb)) (h : zz_X (zc_V l D ad cA tb) E "FrameProcessor$Roster" prog_6_method_5_code 7 zt_T 1 21 (some (.object "FrameProcessor$Task"))) {k5 : Int32 → Int32 → Option Nat → Int32 → zz_S → Option (Option Nat × zz_S)} (hk5 : ∀ (x1 : Int32) (x2 : Int32) (q3 : Option Nat) (x4 : Int32) (st : zz_S), zz_Z (zc_V l D ad cA tb) E 7 0 0 (zz_q (zc_V l D ad cA tb) E (zz_jq (fun t => ad (15 + t)))) (k5 x1 x2 q3 x4 st) 5 [(0, .ref (ad 2)), (1, .int x1), (2, .int x2), (3, zz_rf (fun t => ad (15 + t)) q3), (4, .int x4)] [] st) (x1 : Int32) (x2 : Int32) (q3 : Option Nat) (x4 : Int32) (t5 : Nat) (ht5 : t5 < 6) (y0 : Int32) (st : zz_S) : zz_Z (zc_V l D ad cA tb) E 7 0 0 (zz_q (zc_V l D ad cA tb) E (zz_jq (fun t => ad (15 + t)))) (RO_firstAt_44 k5 x1 x2 q3 x4 t5 y0 st) 44 [(0, .ref (ad 2)), (1, .int x1), (2, .int x2), (3, zz_rf (fun t => ad (15 + t)) q3), (4, .int x4), (5, .ref (ad (15 + t5)))] [.int y0] st := by
  unfold RO_firstAt_44
  refine zz_istore h dRO_firstAt_44 (Nat.le_of_ble_eq_true rfl) ?_
  refine zz_iload h dRO_firstAt_46 rfl ?_
  refine zz_if_eq h 67 dRO_firstAt_48 rfl ?_ ?_
  · exact zz_sub (RO_firstAt_67_w hV h hk5 _ _ _ _ _) rfl
  · refine zz_aload_nq h dRO_firstAt_51 rfl ?_
    refine zz_ifnull h 64 dRO_firstAt_52 rfl (fun e_2 => ?_) (fun t_1 ht_1 e_2 => ?_)
    · subst e_2
      exact zz_sub (RO_firstAt_64_w hV h hk5 _ _ _ _ ht5 _) rfl
    · subst e_2
      refine zz_aload h dRO_firstAt_55 rfl ?_
      refine zz_aload_n h dRO_firstAt_57 rfl ?_
      refine zz_callV1i h (15 + t5) (zc_at ht5) rfl (TA_goesAhead_c hV _ ht5 _ ht_1 _) TA_goesAhead_k zm_RO_31 rfl rfl ⟨Nat.le_of_ble_eq_true rfl, Nat.le_of_ble_eq_true rfl⟩ (Nat.le_of_ble_eq_true rfl) dRO_firstAt_58 (fun r_4 s_3 => ?_)
      refine zz_if_eq h 67 dRO_firstAt_61 rfl ?_ ?_
      · exact zz_sub (RO_firstAt_67_w hV h hk5 _ _ _ _ _) rfl
      · exact zz_sub (RO_firstAt_64_w hV h hk5 _ _ _ _ ht5 _) rfl
set_option maxRecDepth 100000 in
set_option maxHeartbeats 4000000 in
theorem RO_firstAt_43_w {l : Launch} {D : va_G} {ad : Nat → Nat} {cA : Nat → ClassId} {tb : Nat} {E : zz_E} (hV : zz_ok (zc_V l D ad cA tb)) (h : zz_X (zc_V l D ad cA tb) E "FrameProcessor$Roster" prog_6_method_5_code 7 zt_T 1 21 (some (.object "FrameProcessor$Task"))) {k5 : Int32 → Int32 → Option Nat → Int32 → zz_S → Option (Option Nat × zz_S)} (hk5 : ∀ (x1 : Int32) (x2 : Int32) (q3 : Option Nat) (x4 : Int32) (st : zz_S), zz_Z (zc_V l D ad cA tb) E 7 0 0 (zz_q (zc_V l D ad cA tb) E (zz_jq (fun t => ad (15 + t)))) (k5 x1 x2 q3 x4 st) 5 [(0, .ref (ad 2)), (1, .int x1), (2, .int x2), (3, zz_rf (fun t => ad (15 + t)) q3), (4, .int x4)] [] st) (x1 : Int32) (x2 : Int32) (q3 : Option Nat) (x4 : Int32) (t5 : Nat) (ht5 : t5 < 6) (st : zz_S) : zz_Z (zc_V l D ad cA tb) E 7 0 0 (zz_q (zc_V l D ad cA tb) E (zz_jq (fun t => ad (15 + t)))) (RO_firstAt_43 k5 x1 x2 q3 x4 t5 st) 43 [(0, .ref (ad 2)), (1, .int x1), (2, .int x2), (3, zz_rf (fun t => ad (15 + t)) q3), (4, .int x4), (5, .ref (ad (15 + t5)))] [] st := by
  unfold RO_firstAt_43
  refine zz_iconst (v := 0) h dRO_firstAt_43 zz_li_0 ?_
  exact zz_sub (RO_firstAt_44_w hV h hk5 _ _ _ _ _ ht5 _ _) rfl
set_option maxRecDepth 100000 in
set_option maxHeartbeats 4000000 in
theorem RO_firstAt_5b_w {l : Launch} {D : va_G} {ad : Nat → Nat} {cA : Nat → ClassId} {tb : Nat} {E : zz_E} (hV : zz_ok (zc_V l D ad cA tb)) (h : zz_X (zc_V l D ad cA tb) E "FrameProcessor$Roster" prog_6_method_5_code 7 zt_T 1 21 (some (.object "FrameProcessor$Task"))) {k5 : Int32 → Int32 → Option Nat → Int32 → zz_S → Option (Option Nat × zz_S)} (hk5 : ∀ (x1 : Int32) (x2 : Int32) (q3 : Option Nat) (x4 : Int32) (st : zz_S), zz_Z (zc_V l D ad cA tb) E 7 0 0 (zz_q (zc_V l D ad cA tb) E (zz_jq (fun t => ad (15 + t)))) (k5 x1 x2 q3 x4 st) 5 [(0, .ref (ad 2)), (1, .int x1), (2, .int x2), (3, zz_rf (fun t => ad (15 + t)) q3), (4, .int x4)] [] st) (x1 : Int32) (x2 : Int32) (q3 : Option Nat) (x4 : Int32) (st : zz_S) : zz_Z (zc_V l D ad cA tb) E 7 0 0 (zz_q (zc_V l D ad cA tb) E (zz_jq (fun t => ad (15 + t)))) (RO_firstAt_5b k5 x1 x2 q3 x4 st) 5 [(0, .ref (ad 2)), (1, .int x1), (2, .int x2), (3, zz_rf (fun t => ad (15 + t)) q3), (4, .int x4)] [] st := by
  unfold RO_firstAt_5b
  refine zz_iload h dRO_firstAt_5 rfl ?_
  refine zz_bipush (v := 6) h dRO_firstAt_7 zz_lb_6 ?_
  refine zz_icmp_ge h 73 dRO_firstAt_9 rfl ?_ ?_
  · refine zz_aload_nq h dRO_firstAt_73 rfl ?_
    exact zz_aret h rfl dRO_firstAt_74
  · refine zz_aload_n h dRO_firstAt_12 rfl ?_
    refine zc_g_RO_tasks h zi_RO zf_RO_13 dRO_firstAt_13 ?_
    refine zz_iload h dRO_firstAt_16 rfl ?_
    refine zc_ld_13 h dRO_firstAt_18 (fun t_5 ht_5 => ?_)
    refine zz_astore h dRO_firstAt_19 (Nat.le_of_ble_eq_true rfl) ?_
    refine zz_aload h dRO_firstAt_21 rfl ?_
    refine zc_g_TA_state ht_5 h zi_TA zf_RO_20 dRO_firstAt_23 ?_
    refine zz_iload_n h dRO_firstAt_26 rfl ?_
    refine zz_icmp_ne h 43 dRO_firstAt_27 rfl ?_ ?_
    · refine zz_aload h dRO_firstAt_30 rfl ?_
      refine zc_g_TA_address ht_5 h zi_TA zf_RO_28 dRO_firstAt_32 ?_
      refine zz_iload_n h dRO_firstAt_35 rfl ?_
      refine zz_icmp_ne h 43 dRO_firstAt_36 rfl ?_ ?_
      · refine zz_iconst (v := 1) h dRO_firstAt_39 zz_li_1 ?_
        refine zz_goto h 44 dRO_firstAt_40 rfl ?_
        exact zz_sub (RO_firstAt_44_w hV h hk5 _ _ _ _ _ ht_5 _ _) rfl
      · exact zz_sub (RO_firstAt_43_w hV h hk5 _ _ _ _ _ ht_5 _) rfl
    · exact zz_sub (RO_firstAt_43_w hV h hk5 _ _ _ _ _ ht_5 _) rfl
theorem RO_firstAt_5_w {l : Launch} {D : va_G} {ad : Nat → Nat} {cA : Nat → ClassId} {tb : Nat} {E : zz_E} (hV : zz_ok (zc_V l D ad cA tb)) (h : zz_X (zc_V l D ad cA tb) E "FrameProcessor$Roster" prog_6_method_5_code 7 zt_T 1 21 (some (.object "FrameProcessor$Task"))) : ∀ (n : Nat) (x1 : Int32) (x2 : Int32) (q3 : Option Nat) (x4 : Int32) (st : zz_S), zz_Z (zc_V l D ad cA tb) E 7 0 0 (zz_q (zc_V l D ad cA tb) E (zz_jq (fun t => ad (15 + t)))) (RO_firstAt_5 n x1 x2 q3 x4 st) 5 [(0, .ref (ad 2)), (1, .int x1), (2, .int x2), (3, zz_rf (fun t => ad (15 + t)) q3), (4, .int x4)] [] st
  | 0, _, _, _, _, _ => zz_none
  | n + 1, x1, x2, q3, x4, st => RO_firstAt_5b_w hV h (RO_firstAt_5_w hV h n) x1 x2 q3 x4 st
set_option maxRecDepth 100000 in
set_option maxHeartbeats 4000000 in
theorem RO_firstAt_w {l : Launch} {D : va_G} {ad : Nat → Nat} {cA : Nat → ClassId} {tb : Nat} {E : zz_E} (hV : zz_ok (zc_V l D ad cA tb)) (h : zz_X (zc_V l D ad cA tb) E "FrameProcessor$Roster" prog_6_method_5_code 7 zt_T 1 21 (some (.object "FrameProcessor$Task"))) (x1 : Int32) (x2 : Int32) (st : zz_S) : zz_Z (zc_V l D ad cA tb) E 7 0 0 (zz_q (zc_V l D ad cA tb) E (zz_jq (fun t => ad (15 + t)))) (RO_firstAt_f x1 x2 st) 0 [(0, .ref (ad 2)), (1, .int x1), (2, .int x2)] [] st := by
  unfold RO_firstAt_f
  refine zz_null h dRO_firstAt_0 ?_
  refine zz_astore_nN h dRO_firstAt_1 (Nat.le_of_ble_eq_true rfl) ?_
  refine zz_iconst (v := 0) h dRO_firstAt_2 zz_li_0 ?_
  refine zz_istore h dRO_firstAt_3 (Nat.le_of_ble_eq_true rfl) ?_
  exact zz_sub (RO_firstAt_5_w hV h _ _ _ _ _ _) rfl
theorem RO_firstAt_c {l : Launch} {D : va_G} {ad : Nat → Nat} {cA : Nat → ClassId} {tb : Nat} (hV : zz_ok (zc_V l D ad cA tb)) (x1 : Int32) (x2 : Int32) (st : zz_S) : zz_C (zc_V l D ad cA tb) yRO_firstAt (Cond.code yRO_firstAt prog_6_method_5_code 7 (some (.object "FrameProcessor$Task")) :: zt_T) { frames := 1, cells := 0, slots := 0, locals := 21 } (zz_jq (fun t => ad (15 + t))) [.ref (ad 2), .int x1, .int x2] st (RO_firstAt_f x1 x2 st) := zz_met hV (by decide +kernel) rfl (Nat.le_of_ble_eq_true rfl) rfl (fun E h => RO_firstAt_w hV h x1 x2 st)
def RO_runner_f (st : zz_S) : Option (Option Nat × zz_S) := (zz_bd (RO_firstAt_f (1 : Int32) (-1 : Int32) st) fun r_2 s_1 => (some ((r_2 : Option Nat), s_1)))
set_option maxRecDepth 100000 in
set_option maxHeartbeats 4000000 in
theorem RO_runner_w {l : Launch} {D : va_G} {ad : Nat → Nat} {cA : Nat → ClassId} {tb : Nat} {E : zz_E} (hV : zz_ok (zc_V l D ad cA tb)) (h : zz_X (zc_V l D ad cA tb) E "FrameProcessor$Roster" prog_6_method_4_code 1 zt_T 2 47 (some (.object "FrameProcessor$Task"))) (st : zz_S) : zz_Z (zc_V l D ad cA tb) E 1 0 0 (zz_q (zc_V l D ad cA tb) E (zz_jq (fun t => ad (15 + t)))) (RO_runner_f  st) 0 [(0, .ref (ad 2))] [] st := by
  unfold RO_runner_f
  refine zz_aload_n h dRO_runner_0 rfl ?_
  refine zz_iconst (v := 1) h dRO_runner_1 zz_li_1 ?_
  refine zz_iconst (v := -1) h dRO_runner_2 zz_li_m1 ?_
  refine zz_callV2q h 2 rfl rfl (RO_firstAt_c hV _ _ _) RO_firstAt_k zm_RO_24 rfl rfl ⟨Nat.le_of_ble_eq_true rfl, Nat.le_of_ble_eq_true rfl⟩ (Nat.le_of_ble_eq_true rfl) dRO_runner_3 (fun r_2 s_1 => ?_)
  exact zz_aret h rfl dRO_runner_6
theorem RO_runner_c {l : Launch} {D : va_G} {ad : Nat → Nat} {cA : Nat → ClassId} {tb : Nat} (hV : zz_ok (zc_V l D ad cA tb)) (st : zz_S) : zz_C (zc_V l D ad cA tb) yRO_runner (Cond.code yRO_runner prog_6_method_4_code 1 (some (.object "FrameProcessor$Task")) :: zt_T) { frames := 2, cells := 0, slots := 0, locals := 47 } (zz_jq (fun t => ad (15 + t))) [.ref (ad 2)] st (RO_runner_f  st) := zz_met hV (by decide +kernel) rfl (Nat.le_of_ble_eq_true rfl) rfl (fun E h => RO_runner_w hV h  st)
def FP_running_f (st : zz_S) : Option (Int32 × zz_S) := (zz_bd (RO_runner_f st) fun r_2 s_1 => (zz_oc r_2 (some ((-1 : Int32), s_1)) fun t_3 => zz_gd (Nat.blt t_3 6) (some ((Int32.ofNat t_3), s_1))))
set_option maxRecDepth 100000 in
set_option maxHeartbeats 4000000 in
theorem FP_running_w {l : Launch} {D : va_G} {ad : Nat → Nat} {cA : Nat → ClassId} {tb : Nat} {E : zz_E} (hV : zz_ok (zc_V l D ad cA tb)) (h : zz_X (zc_V l D ad cA tb) E "FrameProcessor" prog_1_method_13_code 2 zt_T 3 67 (some .int)) (st : zz_S) : zz_Z (zc_V l D ad cA tb) E 2 0 0 (zz_q (zc_V l D ad cA tb) E zz_ji) (FP_running_f  st) 0 [(0, .ref (ad 0))] [] st := by
  unfold FP_running_f
  refine zz_aload_n h dFP_running_0 rfl ?_
  refine zc_g_FP_roster h zi_FP zf_FP_19 dFP_running_1 ?_
  refine zz_callV0q h 2 rfl rfl (RO_runner_c hV _) RO_runner_k zm_FP_77 rfl rfl ⟨Nat.le_of_ble_eq_true rfl, Nat.le_of_ble_eq_true rfl⟩ (Nat.le_of_ble_eq_true rfl) dFP_running_4 (fun r_2 s_1 => ?_)
  refine zz_astore_nq h dFP_running_7 (Nat.le_of_ble_eq_true rfl) ?_
  refine zz_aload_nq h dFP_running_8 rfl ?_
  refine zz_ifnonnull h 16 dFP_running_9 rfl (fun e_4 => ?_) (fun t_3 ht_3 e_4 => ?_)
  · subst e_4
    refine zz_iconst (v := -1) h dFP_running_12 zz_li_m1 ?_
    refine zz_goto h 20 dFP_running_13 rfl ?_
    exact zz_iret h dFP_running_20
  · subst e_4
    refine zz_aload_n h dFP_running_16 rfl ?_
    refine zc_g_TA_number ht_3 h zi_TA zf_FP_112 dFP_running_17 ?_
    exact zz_iret h dFP_running_20
theorem FP_running_c {l : Launch} {D : va_G} {ad : Nat → Nat} {cA : Nat → ClassId} {tb : Nat} (hV : zz_ok (zc_V l D ad cA tb)) (st : zz_S) : zz_C (zc_V l D ad cA tb) yFP_running (Cond.code yFP_running prog_1_method_13_code 2 (some .int) :: zt_T) { frames := 3, cells := 0, slots := 0, locals := 67 } zz_ji [.ref (ad 0)] st (FP_running_f  st) := zz_met hV (by decide +kernel) rfl (Nat.le_of_ble_eq_true rfl) rfl (fun E h => FP_running_w hV h  st)
def RO_taskAt_f (x1 : Int32) (st : zz_S) : Option (Option Nat × zz_S) := (if x1 < 0 then (some ((none : Option Nat), st)) else (if (6 : Int32) ≤ x1 then (some ((none : Option Nat), st)) else (zz_gd (zz_in x1 6) (zz_nm x1.toNatClampNeg fun t_1 => (some ((some t_1 : Option Nat), st))))))
set_option maxRecDepth 100000 in
set_option maxHeartbeats 4000000 in
theorem RO_taskAt_w {l : Launch} {D : va_G} {ad : Nat → Nat} {cA : Nat → ClassId} {tb : Nat} {E : zz_E} (hV : zz_ok (zc_V l D ad cA tb)) (h : zz_X (zc_V l D ad cA tb) E "FrameProcessor$Roster" prog_6_method_2_code 2 zt_T 0 0 (some (.object "FrameProcessor$Task"))) (x1 : Int32) (st : zz_S) : zz_Z (zc_V l D ad cA tb) E 2 0 0 (zz_q (zc_V l D ad cA tb) E (zz_jq (fun t => ad (15 + t)))) (RO_taskAt_f x1 st) 0 [(0, .ref (ad 2)), (1, .int x1)] [] st := by
  unfold RO_taskAt_f
  refine zz_iload_n h dRO_taskAt_0 rfl ?_
  refine zz_if_lt h 19 dRO_taskAt_1 rfl ?_ ?_
  · refine zz_null h dRO_taskAt_19 ?_
    exact zz_aret h rfl dRO_taskAt_20
  · refine zz_iload_n h dRO_taskAt_4 rfl ?_
    refine zz_bipush (v := 6) h dRO_taskAt_5 zz_lb_6 ?_
    refine zz_icmp_ge h 19 dRO_taskAt_7 rfl ?_ ?_
    · refine zz_null h dRO_taskAt_19 ?_
      exact zz_aret h rfl dRO_taskAt_20
    · refine zz_aload_n h dRO_taskAt_10 rfl ?_
      refine zc_g_RO_tasks h zi_RO zf_RO_13 dRO_taskAt_11 ?_
      refine zz_iload_n h dRO_taskAt_14 rfl ?_
      refine zc_ld_13 h dRO_taskAt_15 (fun t_1 ht_1 => ?_)
      refine zz_goto h 20 dRO_taskAt_16 rfl ?_
      exact zz_aret h rfl dRO_taskAt_20
theorem RO_taskAt_c {l : Launch} {D : va_G} {ad : Nat → Nat} {cA : Nat → ClassId} {tb : Nat} (hV : zz_ok (zc_V l D ad cA tb)) (x1 : Int32) (st : zz_S) : zz_C (zc_V l D ad cA tb) yRO_taskAt (Cond.code yRO_taskAt prog_6_method_2_code 2 (some (.object "FrameProcessor$Task")) :: zt_T) { frames := 0, cells := 0, slots := 0, locals := 0 } (zz_jq (fun t => ad (15 + t))) [.ref (ad 2), .int x1] st (RO_taskAt_f x1 st) := zz_met hV (by decide +kernel) rfl (Nat.le_of_ble_eq_true rfl) rfl (fun E h => RO_taskAt_w hV h x1 st)
def RO_placeOf_52 (k14 : Nat → Int32 → Int32 → zz_S → Option (Int32 × zz_S)) (t1 : Nat) (x2 : Int32) (x3 : Int32) (st : zz_S) : Option (Int32 × zz_S) := (k14 t1 x2 (x3 + (1 : Int32)) st)
def RO_placeOf_14b (k14 : Nat → Int32 → Int32 → zz_S → Option (Int32 × zz_S)) (t1 : Nat) (x2 : Int32) (x3 : Int32) (st : zz_S) : Option (Int32 × zz_S) := (if (6 : Int32) ≤ x3 then (some (x2, st)) else (zz_gd (zz_in x3 6) (zz_nm x3.toNatClampNeg fun t_1 => (if (zz_ag st 7 t_1) = (1 : Int32) then (zz_gd (zz_in x3 6) (zz_nm x3.toNatClampNeg fun t_2 => (if (zz_ag st 14 t1) ≤ (zz_ag st 14 t_2) then (RO_placeOf_52 k14 t1 x2 x3 st) else (RO_placeOf_52 k14 t1 (x2 + (1 : Int32)) x3 st)))) else (RO_placeOf_52 k14 t1 x2 x3 st)))))
def RO_placeOf_14 : Nat → Nat → Int32 → Int32 → zz_S → Option (Int32 × zz_S)
  | 0 => fun _ _ _ _ => none
  | n + 1 => RO_placeOf_14b (RO_placeOf_14 n)
def RO_placeOf_f (t1 : Nat) (st : zz_S) : Option (Int32 × zz_S) := (if (zz_ag st 7 t1) = (1 : Int32) then (RO_placeOf_14 10 t1 (0 : Int32) (0 : Int32) st) else (some ((-1 : Int32), st)))
set_option maxRecDepth 100000 in
set_option maxHeartbeats 4000000 in
theorem RO_placeOf_52_w {l : Launch} {D : va_G} {ad : Nat → Nat} {cA : Nat → ClassId} {tb : Nat} {E : zz_E} (hV : zz_ok (zc_V l D ad cA tb)) (h : zz_X (zc_V l D ad cA tb) E "FrameProcessor$Roster" prog_6_method_6_code 4 zt_T 0 0 (some .int)) {k14 : Nat → Int32 → Int32 → zz_S → Option (Int32 × zz_S)} (hk14 : ∀ (t1 : Nat) (ht1 : t1 < 6) (x2 : Int32) (x3 : Int32) (st : zz_S), zz_Z (zc_V l D ad cA tb) E 4 0 0 (zz_q (zc_V l D ad cA tb) E zz_ji) (k14 t1 x2 x3 st) 14 [(0, .ref (ad 2)), (1, .ref (ad (15 + t1))), (2, .int x2), (3, .int x3)] [] st) (t1 : Nat) (ht1 : t1 < 6) (x2 : Int32) (x3 : Int32) (st : zz_S) : zz_Z (zc_V l D ad cA tb) E 4 0 0 (zz_q (zc_V l D ad cA tb) E zz_ji) (RO_placeOf_52 k14 t1 x2 x3 st) 52 [(0, .ref (ad 2)), (1, .ref (ad (15 + t1))), (2, .int x2), (3, .int x3)] [] st := by
  unfold RO_placeOf_52
  refine zz_iinc h (1 : Int32) dRO_placeOf_52 zz_li_1 rfl (Nat.le_of_ble_eq_true rfl) ?_
  refine zz_goto h 14 dRO_placeOf_55 rfl ?_
  exact zz_sub (hk14 _ ht1 _ _ _) rfl
set_option maxRecDepth 100000 in
set_option maxHeartbeats 4000000 in
theorem RO_placeOf_14b_w {l : Launch} {D : va_G} {ad : Nat → Nat} {cA : Nat → ClassId} {tb : Nat} {E : zz_E} (hV : zz_ok (zc_V l D ad cA tb)) (h : zz_X (zc_V l D ad cA tb) E "FrameProcessor$Roster" prog_6_method_6_code 4 zt_T 0 0 (some .int)) {k14 : Nat → Int32 → Int32 → zz_S → Option (Int32 × zz_S)} (hk14 : ∀ (t1 : Nat) (ht1 : t1 < 6) (x2 : Int32) (x3 : Int32) (st : zz_S), zz_Z (zc_V l D ad cA tb) E 4 0 0 (zz_q (zc_V l D ad cA tb) E zz_ji) (k14 t1 x2 x3 st) 14 [(0, .ref (ad 2)), (1, .ref (ad (15 + t1))), (2, .int x2), (3, .int x3)] [] st) (t1 : Nat) (ht1 : t1 < 6) (x2 : Int32) (x3 : Int32) (st : zz_S) : zz_Z (zc_V l D ad cA tb) E 4 0 0 (zz_q (zc_V l D ad cA tb) E zz_ji) (RO_placeOf_14b k14 t1 x2 x3 st) 14 [(0, .ref (ad 2)), (1, .ref (ad (15 + t1))), (2, .int x2), (3, .int x3)] [] st := by
  unfold RO_placeOf_14b
  refine zz_iload_n h dRO_placeOf_14 rfl ?_
  refine zz_bipush (v := 6) h dRO_placeOf_15 zz_lb_6 ?_
  refine zz_icmp_ge h 58 dRO_placeOf_17 rfl ?_ ?_
  · refine zz_iload_n h dRO_placeOf_58 rfl ?_
    exact zz_iret h dRO_placeOf_59
  · refine zz_aload_n h dRO_placeOf_20 rfl ?_
    refine zc_g_RO_tasks h zi_RO zf_RO_13 dRO_placeOf_21 ?_
    refine zz_iload_n h dRO_placeOf_24 rfl ?_
    refine zc_ld_13 h dRO_placeOf_25 (fun t_1 ht_1 => ?_)
    refine zc_g_TA_state ht_1 h zi_TA zf_RO_20 dRO_placeOf_26 ?_
    refine zz_iconst (v := 1) h dRO_placeOf_29 zz_li_1 ?_
    refine zz_icmp_ne h 52 dRO_placeOf_30 rfl ?_ ?_
    · refine zz_aload_n h dRO_placeOf_33 rfl ?_
      refine zc_g_RO_tasks h zi_RO zf_RO_13 dRO_placeOf_34 ?_
      refine zz_iload_n h dRO_placeOf_37 rfl ?_
      refine zc_ld_13 h dRO_placeOf_38 (fun t_2 ht_2 => ?_)
      refine zc_g_TA_since ht_2 h zi_TA zf_RO_35 dRO_placeOf_39 ?_
      refine zz_aload_n h dRO_placeOf_42 rfl ?_
      refine zc_g_TA_since ht1 h zi_TA zf_RO_35 dRO_placeOf_43 ?_
      refine zz_icmp_ge h 52 dRO_placeOf_46 rfl ?_ ?_
      · exact zz_sub (RO_placeOf_52_w hV h hk14 _ ht1 _ _ _) rfl
      · refine zz_iinc h (1 : Int32) dRO_placeOf_49 zz_li_1 rfl (Nat.le_of_ble_eq_true rfl) ?_
        exact zz_sub (RO_placeOf_52_w hV h hk14 _ ht1 _ _ _) rfl
    · exact zz_sub (RO_placeOf_52_w hV h hk14 _ ht1 _ _ _) rfl
theorem RO_placeOf_14_w {l : Launch} {D : va_G} {ad : Nat → Nat} {cA : Nat → ClassId} {tb : Nat} {E : zz_E} (hV : zz_ok (zc_V l D ad cA tb)) (h : zz_X (zc_V l D ad cA tb) E "FrameProcessor$Roster" prog_6_method_6_code 4 zt_T 0 0 (some .int)) : ∀ (n : Nat) (t1 : Nat) (ht1 : t1 < 6) (x2 : Int32) (x3 : Int32) (st : zz_S), zz_Z (zc_V l D ad cA tb) E 4 0 0 (zz_q (zc_V l D ad cA tb) E zz_ji) (RO_placeOf_14 n t1 x2 x3 st) 14 [(0, .ref (ad 2)), (1, .ref (ad (15 + t1))), (2, .int x2), (3, .int x3)] [] st
  | 0, _, _, _, _, _ => zz_none
  | n + 1, t1, ht1, x2, x3, st => RO_placeOf_14b_w hV h (RO_placeOf_14_w hV h n) t1 ht1 x2 x3 st
set_option maxRecDepth 100000 in
set_option maxHeartbeats 4000000 in
theorem RO_placeOf_w {l : Launch} {D : va_G} {ad : Nat → Nat} {cA : Nat → ClassId} {tb : Nat} {E : zz_E} (hV : zz_ok (zc_V l D ad cA tb)) (h : zz_X (zc_V l D ad cA tb) E "FrameProcessor$Roster" prog_6_method_6_code 4 zt_T 0 0 (some .int)) (t1 : Nat) (ht1 : t1 < 6) (st : zz_S) : zz_Z (zc_V l D ad cA tb) E 4 0 0 (zz_q (zc_V l D ad cA tb) E zz_ji) (RO_placeOf_f t1 st) 0 [(0, .ref (ad 2)), (1, .ref (ad (15 + t1)))] [] st := by
  unfold RO_placeOf_f
  refine zz_aload_n h dRO_placeOf_0 rfl ?_
  refine zc_g_TA_state ht1 h zi_TA zf_RO_20 dRO_placeOf_1 ?_
  refine zz_iconst (v := 1) h dRO_placeOf_4 zz_li_1 ?_
  refine zz_icmp_eq h 10 dRO_placeOf_5 rfl ?_ ?_
  · refine zz_iconst (v := 0) h dRO_placeOf_10 zz_li_0 ?_
    refine zz_istore_n h dRO_placeOf_11 (Nat.le_of_ble_eq_true rfl) ?_
    refine zz_iconst (v := 0) h dRO_placeOf_12 zz_li_0 ?_
    refine zz_istore_n h dRO_placeOf_13 (Nat.le_of_ble_eq_true rfl) ?_
    exact zz_sub (RO_placeOf_14_w hV h _ _ ht1 _ _ _) rfl
  · refine zz_iconst (v := -1) h dRO_placeOf_8 zz_li_m1 ?_
    exact zz_iret h dRO_placeOf_9
theorem RO_placeOf_c {l : Launch} {D : va_G} {ad : Nat → Nat} {cA : Nat → ClassId} {tb : Nat} (hV : zz_ok (zc_V l D ad cA tb)) (t1 : Nat) (ht1 : t1 < 6) (st : zz_S) : zz_C (zc_V l D ad cA tb) yRO_placeOf (Cond.code yRO_placeOf prog_6_method_6_code 4 (some .int) :: zt_T) { frames := 0, cells := 0, slots := 0, locals := 0 } zz_ji [.ref (ad 2), .ref (ad (15 + t1))] st (RO_placeOf_f t1 st) := zz_met hV (by decide +kernel) rfl (Nat.le_of_ble_eq_true rfl) rfl (fun E h => RO_placeOf_w hV h t1 ht1 st)
def FP_process_f (x1 : Int32) (x2 : Int32) (st : zz_S) : Option (Int32 × zz_S) := (zz_bd (RO_taskAt_f x1 st) fun r_2 s_1 => (zz_oc r_2 (some ((-1 : Int32), s_1)) fun t_3 => zz_gd (Nat.blt t_3 6) (if x2 = (0 : Int32) then (some ((zz_ag s_1 7 t_3), s_1)) else (if x2 = (1 : Int32) then (some ((zz_ag s_1 8 t_3), s_1)) else (if x2 = (2 : Int32) then (some ((zz_ag s_1 9 t_3), s_1)) else (if x2 = (3 : Int32) then (some ((zz_ag s_1 10 t_3), s_1)) else (if x2 = (4 : Int32) then (some ((zz_ag s_1 11 t_3), s_1)) else (if x2 = (5 : Int32) then (some ((zz_ag s_1 12 t_3), s_1)) else (if x2 = (6 : Int32) then (some ((zz_ag s_1 13 t_3), s_1)) else (if x2 = (7 : Int32) then (zz_bd (RO_placeOf_f t_3 s_1) fun r_14 s_13 => (some (r_14, s_13))) else (some ((-1 : Int32), s_1))))))))))))
set_option maxRecDepth 100000 in
set_option maxHeartbeats 4000000 in
theorem FP_process_w {l : Launch} {D : va_G} {ad : Nat → Nat} {cA : Nat → ClassId} {tb : Nat} {E : zz_E} (hV : zz_ok (zc_V l D ad cA tb)) (h : zz_X (zc_V l D ad cA tb) E "FrameProcessor" prog_1_method_14_code 4 zt_T 1 23 (some .int)) (x1 : Int32) (x2 : Int32) (st : zz_S) : zz_Z (zc_V l D ad cA tb) E 4 0 0 (zz_q (zc_V l D ad cA tb) E zz_ji) (FP_process_f x1 x2 st) 0 [(0, .ref (ad 0)), (1, .int x1), (2, .int x2)] [] st := by
  unfold FP_process_f
  refine zz_aload_n h dFP_process_0 rfl ?_
  refine zc_g_FP_roster h zi_FP zf_FP_19 dFP_process_1 ?_
  refine zz_iload_n h dFP_process_4 rfl ?_
  refine zz_callV1q h 2 rfl rfl (RO_taskAt_c hV _ _) RO_taskAt_k zm_FP_85 rfl rfl ⟨Nat.le_of_ble_eq_true rfl, Nat.le_of_ble_eq_true rfl⟩ (Nat.le_of_ble_eq_true rfl) dFP_process_5 (fun r_2 s_1 => ?_)
  refine zz_astore_nq h dFP_process_8 (Nat.le_of_ble_eq_true rfl) ?_
  refine zz_aload_nq h dFP_process_9 rfl ?_
  refine zz_ifnonnull h 15 dFP_process_10 rfl (fun e_4 => ?_) (fun t_3 ht_3 e_4 => ?_)
  · subst e_4
    refine zz_iconst (v := -1) h dFP_process_13 zz_li_m1 ?_
    exact zz_iret h dFP_process_14
  · subst e_4
    refine zz_iload_n h dFP_process_15 rfl ?_
    refine zz_ite (fun c_5 => ?_) (fun c_5 => ?_)
    · refine zz_table (off := 48) h 64 dFP_process_16 c_5 (by decide) (by decide) (by decide) rfl ?_
      refine zz_aload_n h dFP_process_64 rfl ?_
      refine zc_g_TA_state ht_3 h zi_TA zf_FP_89 dFP_process_65 ?_
      exact zz_iret h dFP_process_68
    refine zz_ite (fun c_6 => ?_) (fun c_6 => ?_)
    · refine zz_table (off := 53) h 69 dFP_process_16 c_6 (by decide) (by decide) (by decide) rfl ?_
      refine zz_aload_n h dFP_process_69 rfl ?_
      refine zc_g_TA_priority ht_3 h zi_TA zf_FP_115 dFP_process_70 ?_
      exact zz_iret h dFP_process_73
    refine zz_ite (fun c_7 => ?_) (fun c_7 => ?_)
    · refine zz_table (off := 58) h 74 dFP_process_16 c_7 (by decide) (by decide) (by decide) rfl ?_
      refine zz_aload_n h dFP_process_74 rfl ?_
      refine zc_g_TA_frame ht_3 h zi_TA zf_FP_118 dFP_process_75 ?_
      exact zz_iret h dFP_process_78
    refine zz_ite (fun c_8 => ?_) (fun c_8 => ?_)
    · refine zz_table (off := 63) h 79 dFP_process_16 c_8 (by decide) (by decide) (by decide) rfl ?_
      refine zz_aload_n h dFP_process_79 rfl ?_
      refine zc_g_TA_depth ht_3 h zi_TA zf_FP_121 dFP_process_80 ?_
      exact zz_iret h dFP_process_83
    refine zz_ite (fun c_9 => ?_) (fun c_9 => ?_)
    · refine zz_table (off := 68) h 84 dFP_process_16 c_9 (by decide) (by decide) (by decide) rfl ?_
      refine zz_aload_n h dFP_process_84 rfl ?_
      refine zc_g_TA_address ht_3 h zi_TA zf_FP_124 dFP_process_85 ?_
      exact zz_iret h dFP_process_88
    refine zz_ite (fun c_10 => ?_) (fun c_10 => ?_)
    · refine zz_table (off := 73) h 89 dFP_process_16 c_10 (by decide) (by decide) (by decide) rfl ?_
      refine zz_aload_n h dFP_process_89 rfl ?_
      refine zc_g_TA_timeout ht_3 h zi_TA zf_FP_127 dFP_process_90 ?_
      exact zz_iret h dFP_process_93
    refine zz_ite (fun c_11 => ?_) (fun c_11 => ?_)
    · refine zz_table (off := 78) h 94 dFP_process_16 c_11 (by decide) (by decide) (by decide) rfl ?_
      refine zz_aload_n h dFP_process_94 rfl ?_
      refine zc_g_TA_fault ht_3 h zi_TA zf_FP_130 dFP_process_95 ?_
      exact zz_iret h dFP_process_98
    refine zz_ite (fun c_12 => ?_) (fun c_12 => ?_)
    · refine zz_table (off := 83) h 99 dFP_process_16 c_12 (by decide) (by decide) (by decide) rfl ?_
      refine zz_aload_n h dFP_process_99 rfl ?_
      refine zc_g_FP_roster h zi_FP zf_FP_19 dFP_process_100 ?_
      refine zz_aload_n h dFP_process_103 rfl ?_
      refine zz_callV1i h 2 rfl rfl (RO_placeOf_c hV _ ht_3 _) RO_placeOf_k zm_FP_133 rfl rfl ⟨Nat.le_of_ble_eq_true rfl, Nat.le_of_ble_eq_true rfl⟩ (Nat.le_of_ble_eq_true rfl) dFP_process_104 (fun r_14 s_13 => ?_)
      exact zz_iret h dFP_process_107
    refine zz_tableD h 108 dFP_process_16 (by have z0 := lv_neT (a := 0) c_5 (by decide); have z1 := lv_neT (a := 1) c_6 (by decide); have z2 := lv_neT (a := 2) c_7 (by decide); have z3 := lv_neT (a := 3) c_8 (by decide); have z4 := lv_neT (a := 4) c_9 (by decide); have z5 := lv_neT (a := 5) c_10 (by decide); have z6 := lv_neT (a := 6) c_11 (by decide); have z7 := lv_neT (a := 7) c_12 (by decide); omega) rfl ?_
    refine zz_iconst (v := -1) h dFP_process_108 zz_li_m1 ?_
    exact zz_iret h dFP_process_109
theorem FP_process_c {l : Launch} {D : va_G} {ad : Nat → Nat} {cA : Nat → ClassId} {tb : Nat} (hV : zz_ok (zc_V l D ad cA tb)) (x1 : Int32) (x2 : Int32) (st : zz_S) : zz_C (zc_V l D ad cA tb) yFP_process (Cond.code yFP_process prog_1_method_14_code 4 (some .int) :: zt_T) { frames := 1, cells := 0, slots := 0, locals := 23 } zz_ji [.ref (ad 0), .int x1, .int x2] st (FP_process_f x1 x2 st) := zz_met hV (by decide +kernel) rfl (Nat.le_of_ble_eq_true rfl) rfl (fun E h => FP_process_w hV h x1 x2 st)
def TA_wordFromTop_f (t0 : Nat) (x1 : Int32) (st : zz_S) : Option (Int32 × zz_S) := (if x1 < 0 then (some ((-1 : Int32), st)) else (if (zz_ag st 10 t0) ≤ x1 then (some ((-1 : Int32), st)) else (zz_nm (((zz_ag st 10 t0) - (1 : Int32)) - x1) fun v_1 => (zz_gd (zz_in v_1 8) (some ((zz_ag st (20 + t0) v_1.toNatClampNeg), st))))))
set_option maxRecDepth 100000 in
set_option maxHeartbeats 4000000 in
theorem TA_wordFromTop_w {l : Launch} {D : va_G} {ad : Nat → Nat} {cA : Nat → ClassId} {tb : Nat} {E : zz_E} (hV : zz_ok (zc_V l D ad cA tb)) (h : zz_X (zc_V l D ad cA tb) E "FrameProcessor$Task" prog_7_method_4_code 2 zt_T 0 0 (some .int)) (t0 : Nat) (ht0 : t0 < 6) (x1 : Int32) (st : zz_S) : zz_Z (zc_V l D ad cA tb) E 2 0 0 (zz_q (zc_V l D ad cA tb) E zz_ji) (TA_wordFromTop_f t0 x1 st) 0 [(0, .ref (ad (15 + t0))), (1, .int x1)] [] st := by
  unfold TA_wordFromTop_f
  refine zz_iload_n h dTA_wordFromTop_0 rfl ?_
  refine zz_if_lt h 28 dTA_wordFromTop_1 rfl ?_ ?_
  · refine zz_iconst (v := -1) h dTA_wordFromTop_28 zz_li_m1 ?_
    exact zz_iret h dTA_wordFromTop_29
  · refine zz_iload_n h dTA_wordFromTop_4 rfl ?_
    refine zz_aload_n h dTA_wordFromTop_5 rfl ?_
    refine zc_g_TA_depth ht0 h zi_TA zf_TA_32 dTA_wordFromTop_6 ?_
    refine zz_icmp_ge h 28 dTA_wordFromTop_9 rfl ?_ ?_
    · refine zz_iconst (v := -1) h dTA_wordFromTop_28 zz_li_m1 ?_
      exact zz_iret h dTA_wordFromTop_29
    · refine zz_aload_n h dTA_wordFromTop_12 rfl ?_
      refine zc_g_TA_words ht0 h zi_TA zf_TA_11 dTA_wordFromTop_13 ?_
      refine zz_aload_n h dTA_wordFromTop_16 rfl ?_
      refine zc_g_TA_depth ht0 h zi_TA zf_TA_32 dTA_wordFromTop_17 ?_
      refine zz_iconst (v := 1) h dTA_wordFromTop_20 zz_li_1 ?_
      refine zz_isub h dTA_wordFromTop_21 ?_
      refine zz_iload_n h dTA_wordFromTop_22 rfl ?_
      refine zz_isub h dTA_wordFromTop_23 ?_
      refine zz_topi (fun v_1 => ?_)
      refine zc_ldW ht0 h dTA_wordFromTop_24 ?_
      refine zz_goto h 29 dTA_wordFromTop_25 rfl ?_
      exact zz_iret h dTA_wordFromTop_29
theorem TA_wordFromTop_c {l : Launch} {D : va_G} {ad : Nat → Nat} {cA : Nat → ClassId} {tb : Nat} (hV : zz_ok (zc_V l D ad cA tb)) (t0 : Nat) (ht0 : t0 < 6) (x1 : Int32) (st : zz_S) : zz_C (zc_V l D ad cA tb) yTA_wordFromTop (Cond.code yTA_wordFromTop prog_7_method_4_code 2 (some .int) :: zt_T) { frames := 0, cells := 0, slots := 0, locals := 0 } zz_ji [.ref (ad (15 + t0)), .int x1] st (TA_wordFromTop_f t0 x1 st) := zz_met hV (by decide +kernel) rfl (Nat.le_of_ble_eq_true rfl) rfl (fun E h => TA_wordFromTop_w hV h t0 ht0 x1 st)
def FP_stack_f (x1 : Int32) (x2 : Int32) (st : zz_S) : Option (Int32 × zz_S) := (zz_bd (RO_taskAt_f x1 st) fun r_2 s_1 => (zz_oc r_2 (some ((-1 : Int32), s_1)) fun t_3 => zz_gd (Nat.blt t_3 6) (zz_bd (TA_wordFromTop_f t_3 x2 s_1) fun r_6 s_5 => (some (r_6, s_5)))))
set_option maxRecDepth 100000 in
set_option maxHeartbeats 4000000 in
theorem FP_stack_w {l : Launch} {D : va_G} {ad : Nat → Nat} {cA : Nat → ClassId} {tb : Nat} {E : zz_E} (hV : zz_ok (zc_V l D ad cA tb)) (h : zz_X (zc_V l D ad cA tb) E "FrameProcessor" prog_1_method_15_code 4 zt_T 1 21 (some .int)) (x1 : Int32) (x2 : Int32) (st : zz_S) : zz_Z (zc_V l D ad cA tb) E 4 0 0 (zz_q (zc_V l D ad cA tb) E zz_ji) (FP_stack_f x1 x2 st) 0 [(0, .ref (ad 0)), (1, .int x1), (2, .int x2)] [] st := by
  unfold FP_stack_f
  refine zz_aload_n h dFP_stack_0 rfl ?_
  refine zc_g_FP_roster h zi_FP zf_FP_19 dFP_stack_1 ?_
  refine zz_iload_n h dFP_stack_4 rfl ?_
  refine zz_callV1q h 2 rfl rfl (RO_taskAt_c hV _ _) RO_taskAt_k zm_FP_85 rfl rfl ⟨Nat.le_of_ble_eq_true rfl, Nat.le_of_ble_eq_true rfl⟩ (Nat.le_of_ble_eq_true rfl) dFP_stack_5 (fun r_2 s_1 => ?_)
  refine zz_astore_nq h dFP_stack_8 (Nat.le_of_ble_eq_true rfl) ?_
  refine zz_aload_nq h dFP_stack_9 rfl ?_
  refine zz_ifnonnull h 17 dFP_stack_10 rfl (fun e_4 => ?_) (fun t_3 ht_3 e_4 => ?_)
  · subst e_4
    refine zz_iconst (v := -1) h dFP_stack_13 zz_li_m1 ?_
    refine zz_goto h 22 dFP_stack_14 rfl ?_
    exact zz_iret h dFP_stack_22
  · subst e_4
    refine zz_aload_n h dFP_stack_17 rfl ?_
    refine zz_iload_n h dFP_stack_18 rfl ?_
    refine zz_callV1i h (15 + t_3) (zc_at ht_3) rfl (TA_wordFromTop_c hV _ ht_3 _ _) TA_wordFromTop_k zm_FP_137 rfl rfl ⟨Nat.le_of_ble_eq_true rfl, Nat.le_of_ble_eq_true rfl⟩ (Nat.le_of_ble_eq_true rfl) dFP_stack_19 (fun r_6 s_5 => ?_)
    exact zz_iret h dFP_stack_22
theorem FP_stack_c {l : Launch} {D : va_G} {ad : Nat → Nat} {cA : Nat → ClassId} {tb : Nat} (hV : zz_ok (zc_V l D ad cA tb)) (x1 : Int32) (x2 : Int32) (st : zz_S) : zz_C (zc_V l D ad cA tb) yFP_stack (Cond.code yFP_stack prog_1_method_15_code 4 (some .int) :: zt_T) { frames := 1, cells := 0, slots := 0, locals := 21 } zz_ji [.ref (ad 0), .int x1, .int x2] st (FP_stack_f x1 x2 st) := zz_met hV (by decide +kernel) rfl (Nat.le_of_ble_eq_true rfl) rfl (fun E h => FP_stack_w hV h x1 x2 st)
def ME_isPage_f (x0 : Int32) (st : zz_S) : Option (Int32 × zz_S) := (if x0 < 0 then (some ((0 : Int32), st)) else (if (16 : Int32) ≤ x0 then (some ((0 : Int32), st)) else (some ((1 : Int32), st))))
set_option maxRecDepth 100000 in
set_option maxHeartbeats 4000000 in
theorem ME_isPage_w {l : Launch} {D : va_G} {ad : Nat → Nat} {cA : Nat → ClassId} {tb : Nat} {E : zz_E} (hV : zz_ok (zc_V l D ad cA tb)) (h : zz_X (zc_V l D ad cA tb) E "FrameProcessor$Memory" prog_4_method_3_code 1 zt_T 0 0 (some .boolean)) (x0 : Int32) (st : zz_S) : zz_Z (zc_V l D ad cA tb) E 1 0 0 (zz_q (zc_V l D ad cA tb) E zz_ji) (ME_isPage_f x0 st) 0 [(0, .int x0)] [] st := by
  unfold ME_isPage_f
  refine zz_iload_n h dME_isPage_0 rfl ?_
  refine zz_if_lt h 14 dME_isPage_1 rfl ?_ ?_
  · refine zz_iconst (v := 0) h dME_isPage_14 zz_li_0 ?_
    exact zz_zret h dME_isPage_15 (by decide +kernel)
  · refine zz_iload_n h dME_isPage_4 rfl ?_
    refine zz_bipush (v := 16) h dME_isPage_5 zz_lb_16 ?_
    refine zz_icmp_ge h 14 dME_isPage_7 rfl ?_ ?_
    · refine zz_iconst (v := 0) h dME_isPage_14 zz_li_0 ?_
      exact zz_zret h dME_isPage_15 (by decide +kernel)
    · refine zz_iconst (v := 1) h dME_isPage_10 zz_li_1 ?_
      refine zz_goto h 15 dME_isPage_11 rfl ?_
      exact zz_zret h dME_isPage_15 (by decide +kernel)
theorem ME_isPage_c {l : Launch} {D : va_G} {ad : Nat → Nat} {cA : Nat → ClassId} {tb : Nat} (hV : zz_ok (zc_V l D ad cA tb)) (x0 : Int32) (st : zz_S) : zz_C (zc_V l D ad cA tb) yME_isPage (Cond.code yME_isPage prog_4_method_3_code 1 (some .boolean) :: zt_T) { frames := 0, cells := 0, slots := 0, locals := 0 } zz_ji [.int x0] st (ME_isPage_f x0 st) := zz_met hV (by decide +kernel) rfl (Nat.le_of_ble_eq_true rfl) rfl (fun E h => ME_isPage_w hV h x0 st)
def ME_realOf_f (x1 : Int32) (st : zz_S) : Option (Int32 × zz_S) := (zz_gd (zz_in x1 16) (some ((zz_ag st 1 x1.toNatClampNeg), st)))
set_option maxRecDepth 100000 in
set_option maxHeartbeats 4000000 in
theorem ME_realOf_w {l : Launch} {D : va_G} {ad : Nat → Nat} {cA : Nat → ClassId} {tb : Nat} {E : zz_E} (hV : zz_ok (zc_V l D ad cA tb)) (h : zz_X (zc_V l D ad cA tb) E "FrameProcessor$Memory" prog_4_method_7_code 2 zt_T 0 0 (some .int)) (x1 : Int32) (st : zz_S) : zz_Z (zc_V l D ad cA tb) E 2 0 0 (zz_q (zc_V l D ad cA tb) E zz_ji) (ME_realOf_f x1 st) 0 [(0, .ref (ad 1)), (1, .int x1)] [] st := by
  unfold ME_realOf_f
  refine zz_aload_n h dME_realOf_0 rfl ?_
  refine zc_g_ME_reals h zi_ME zf_ME_15 dME_realOf_1 ?_
  refine zz_iload_n h dME_realOf_4 rfl ?_
  refine zc_ld_8 h dME_realOf_5 ?_
  exact zz_iret h dME_realOf_6
theorem ME_realOf_c {l : Launch} {D : va_G} {ad : Nat → Nat} {cA : Nat → ClassId} {tb : Nat} (hV : zz_ok (zc_V l D ad cA tb)) (x1 : Int32) (st : zz_S) : zz_C (zc_V l D ad cA tb) yME_realOf (Cond.code yME_realOf prog_4_method_7_code 2 (some .int) :: zt_T) { frames := 0, cells := 0, slots := 0, locals := 0 } zz_ji [.ref (ad 1), .int x1] st (ME_realOf_f x1 st) := zz_met hV (by decide +kernel) rfl (Nat.le_of_ble_eq_true rfl) rfl (fun E h => ME_realOf_w hV h x1 st)
