def MO_more_299 (x1 : Int32) (st : zz_S) : Option (Int32 × zz_S) := (zz_bd (MO_two_f x1 st) fun _ s_1 => (some ((1 : Int32), s_1)))
def MO_more_293 (x1 : Int32) (st : zz_S) : Option (Int32 × zz_S) := (if x1 = (19 : Int32) then (MO_more_299 x1 st) else (zz_bd (MO_wrong_f (9 : Int32) st) fun _ s_2 => (some ((1 : Int32), s_2))))
def MO_more_261b (k261 : Int32 → zz_S → Option (Int32 × zz_S)) (x2 : Int32) (st : zz_S) : Option (Int32 × zz_S) := (zz_bd (MO_wake_f (3 : Int32) x2 st) fun r_4 s_3 => (if r_4 = 0 then (some ((1 : Int32), s_3)) else (k261 x2 s_3)))
def MO_more_261 : Nat → Int32 → zz_S → Option (Int32 × zz_S)
  | 0 => fun _ _ => none
  | n + 1 => MO_more_261b (MO_more_261 n)
def MO_more_117 (st : zz_S) : Option (Int32 × zz_S) := (zz_nm (zz_sg st 3) fun v_5 => (zz_gd (zz_in v_5 6) (if (zz_ag st 5 v_5.toNatClampNeg) = (2 : Int32) then (some ((0 : Int32), st)) else (some ((1 : Int32), st)))))
def MO_more_f (x1 : Int32) (st : zz_S) : Option (Int32 × zz_S) := (if x1 = (31 : Int32) then (zz_bd (MO_fork_f st) fun _ s_7 => (some ((1 : Int32), s_7))) else (if x1 = (32 : Int32) then (if x1 ≤ (8 : Int32) then (MO_more_293 x1 st) else (if x1 < (17 : Int32) then (MO_more_299 x1 st) else (MO_more_293 x1 st))) else (if x1 = (33 : Int32) then (if x1 ≤ (8 : Int32) then (MO_more_293 x1 st) else (if x1 < (17 : Int32) then (MO_more_299 x1 st) else (MO_more_293 x1 st))) else (if x1 = (34 : Int32) then (if x1 ≤ (8 : Int32) then (MO_more_293 x1 st) else (if x1 < (17 : Int32) then (MO_more_299 x1 st) else (MO_more_293 x1 st))) else (if x1 = (35 : Int32) then (if x1 ≤ (8 : Int32) then (MO_more_293 x1 st) else (if x1 < (17 : Int32) then (MO_more_299 x1 st) else (MO_more_293 x1 st))) else (if x1 = (36 : Int32) then (if x1 ≤ (8 : Int32) then (MO_more_293 x1 st) else (if x1 < (17 : Int32) then (MO_more_299 x1 st) else (MO_more_293 x1 st))) else (if x1 = (37 : Int32) then (if x1 ≤ (8 : Int32) then (MO_more_293 x1 st) else (if x1 < (17 : Int32) then (MO_more_299 x1 st) else (MO_more_293 x1 st))) else (if x1 = (38 : Int32) then (if x1 ≤ (8 : Int32) then (MO_more_293 x1 st) else (if x1 < (17 : Int32) then (MO_more_299 x1 st) else (MO_more_293 x1 st))) else (if x1 = (39 : Int32) then (if x1 ≤ (8 : Int32) then (MO_more_293 x1 st) else (if x1 < (17 : Int32) then (MO_more_299 x1 st) else (MO_more_293 x1 st))) else (if x1 = (40 : Int32) then (zz_bd (MO_pop_f st) fun r_18 s_17 => (zz_bd (MO_read_f r_18 s_17) fun r_20 s_19 => (if r_20 = 0 then (zz_bd (MO_write_f r_18 (1 : Int32) s_19) fun _ s_21 => (MO_more_117 s_21)) else (if (zz_sg s_19 2) = 0 then (zz_bd (MO_block_f r_18 s_19) fun _ s_22 => (MO_more_117 s_22)) else (MO_more_117 s_19))))) else (if x1 = (41 : Int32) then (zz_bd (MO_pop_f st) fun r_25 s_24 => (zz_bd (MO_exit_f r_25 s_24) fun _ s_26 => (some ((1 : Int32), s_26)))) else (if x1 = (42 : Int32) then (zz_bd (MO_pop_f st) fun r_29 s_28 => (zz_bd (MO_pop_f s_28) fun r_31 s_30 => (zz_bd (MO_pop_f s_30) fun r_33 s_32 => (zz_bd (MO_exit_f r_33 s_32) fun _ s_34 => (zz_bd (MO_read_f r_31 s_34) fun r_36 s_35 => (if (zz_rem r_36 (2 : Int32)) = (1 : Int32) then (zz_bd (MO_write_f r_31 (r_36 - (1 : Int32)) s_35) fun _ s_37 => (some ((1 : Int32), s_37))) else (if (zz_sg s_35 2) = 0 then (zz_nm (zz_sg s_35 3) fun v_38 => (zz_gd (zz_in v_38 6) (zz_nm (zz_ap s_35 5 v_38.toNatClampNeg (3 : Int32)) fun s_39 => (zz_nm (zz_sg s_39 3) fun v_40 => (zz_gd (zz_in v_40 6) (zz_nm (zz_ap s_39 10 v_40.toNatClampNeg (r_31 &&& (4095 : Int32))) fun s_41 => (zz_nm (zz_sg s_41 3) fun v_42 => (zz_gd (zz_in v_42 6) (zz_nm (zz_ap s_41 11 v_42.toNatClampNeg r_29) fun s_43 => (some ((1 : Int32), s_43))))))))))) else (some ((1 : Int32), s_35))))))))) else (if x1 = (43 : Int32) then (zz_bd (MO_pop_f st) fun r_46 s_45 => (zz_bd (MO_wake_f (3 : Int32) r_46 s_45) fun r_48 s_47 => (some ((1 : Int32), s_47)))) else (if x1 = (44 : Int32) then (zz_bd (MO_pop_f st) fun r_51 s_50 => (MO_more_261 10 r_51 s_50)) else (if x1 = (45 : Int32) then (zz_gd (zz_bo (1 : Int32)) (zz_nm (zz_sp st 10 (1 : Int32)) fun s_53 => (some ((1 : Int32), s_53)))) else (if x1 ≤ (8 : Int32) then (MO_more_293 x1 st) else (if x1 < (17 : Int32) then (MO_more_299 x1 st) else (MO_more_293 x1 st))))))))))))))))))
set_option maxRecDepth 100000 in
set_option maxHeartbeats 4000000 in
theorem MO_more_299_w {l : Launch} {D : va_G} {ad : Nat → Nat} {cA : Nat → ClassId} {tb : Nat} {E : zz_E} (hV : zz_ok (zm_V l D ad cA tb)) (h : zz_X (zm_V l D ad cA tb) E "FrameProcessorModel" prog_10_method_33_code 7 zt_T 6 143 (some .boolean)) (x1 : Int32) (st : zz_S) : zz_Z (zm_V l D ad cA tb) E 7 0 0 (zz_q (zm_V l D ad cA tb) E zz_ji) (MO_more_299 x1 st) 299 [(0, .ref (ad 0)), (1, .int x1)] [] st := by
  unfold MO_more_299
  refine zz_aload_n h dMO_more_299 rfl ?_
  refine zz_iload_n h dMO_more_300 rfl ?_
  refine zz_callV1v h 0 rfl rfl (MO_two_c hV _ _) MO_two_k zm_MO_191 rfl rfl ⟨Nat.le_of_ble_eq_true rfl, Nat.le_of_ble_eq_true rfl⟩ (Nat.le_of_ble_eq_true rfl) dMO_more_301 (fun _ s_1 => ?_)
  refine zz_goto h 313 dMO_more_304 rfl ?_
  refine zz_iconst (v := 1) h dMO_more_313 zz_li_1 ?_
  exact zz_zret h dMO_more_314 (by decide +kernel)
set_option maxRecDepth 100000 in
set_option maxHeartbeats 4000000 in
theorem MO_more_293_w {l : Launch} {D : va_G} {ad : Nat → Nat} {cA : Nat → ClassId} {tb : Nat} {E : zz_E} (hV : zz_ok (zm_V l D ad cA tb)) (h : zz_X (zm_V l D ad cA tb) E "FrameProcessorModel" prog_10_method_33_code 7 zt_T 6 143 (some .boolean)) (x1 : Int32) (st : zz_S) : zz_Z (zm_V l D ad cA tb) E 7 0 0 (zz_q (zm_V l D ad cA tb) E zz_ji) (MO_more_293 x1 st) 293 [(0, .ref (ad 0)), (1, .int x1)] [] st := by
  unfold MO_more_293
  refine zz_iload_n h dMO_more_293 rfl ?_
  refine zz_bipush (v := 19) h dMO_more_294 zz_lb_19 ?_
  refine zz_icmp_ne h 307 dMO_more_296 rfl ?_ ?_
  · exact zz_sub (MO_more_299_w hV h _ _) rfl
  · refine zz_aload_n h dMO_more_307 rfl ?_
    refine zz_bipush (v := 9) h dMO_more_308 zz_lb_9 ?_
    refine zz_callV1v h 0 rfl rfl (MO_wrong_c hV _ _) MO_wrong_k zm_MO_75 rfl rfl ⟨Nat.le_of_ble_eq_true rfl, Nat.le_of_ble_eq_true rfl⟩ (Nat.le_of_ble_eq_true rfl) dMO_more_310 (fun _ s_2 => ?_)
    refine zz_iconst (v := 1) h dMO_more_313 zz_li_1 ?_
    exact zz_zret h dMO_more_314 (by decide +kernel)
set_option maxRecDepth 100000 in
set_option maxHeartbeats 4000000 in
theorem MO_more_261b_w {l : Launch} {D : va_G} {ad : Nat → Nat} {cA : Nat → ClassId} {tb : Nat} {E : zz_E} (hV : zz_ok (zm_V l D ad cA tb)) (h : zz_X (zm_V l D ad cA tb) E "FrameProcessorModel" prog_10_method_33_code 7 zt_T 6 143 (some .boolean)) {k261 : Int32 → zz_S → Option (Int32 × zz_S)} (hk261 : ∀ (x2 : Int32) (st : zz_S), zz_Z (zm_V l D ad cA tb) E 7 0 0 (zz_q (zm_V l D ad cA tb) E zz_ji) (k261 x2 st) 261 [(0, .ref (ad 0)), (2, .int x2)] [] st) (x2 : Int32) (st : zz_S) : zz_Z (zm_V l D ad cA tb) E 7 0 0 (zz_q (zm_V l D ad cA tb) E zz_ji) (MO_more_261b k261 x2 st) 261 [(0, .ref (ad 0)), (2, .int x2)] [] st := by
  unfold MO_more_261b
  refine zz_aload_n h dMO_more_261 rfl ?_
  refine zz_iconst (v := 3) h dMO_more_262 zz_li_3 ?_
  refine zz_iload_n h dMO_more_263 rfl ?_
  refine zz_callV2i h 0 rfl rfl (MO_wake_c hV _ _ _) MO_wake_k zm_MO_183 rfl rfl ⟨Nat.le_of_ble_eq_true rfl, Nat.le_of_ble_eq_true rfl⟩ (Nat.le_of_ble_eq_true rfl) dMO_more_264 (fun r_4 s_3 => ?_)
  refine zz_if_eq h 313 dMO_more_267 rfl ?_ ?_
  · refine zz_iconst (v := 1) h dMO_more_313 zz_li_1 ?_
    exact zz_zret h dMO_more_314 (by decide +kernel)
  · refine zz_goto h 261 dMO_more_270 rfl ?_
    exact zz_sub (hk261 _ _) rfl
theorem MO_more_261_w {l : Launch} {D : va_G} {ad : Nat → Nat} {cA : Nat → ClassId} {tb : Nat} {E : zz_E} (hV : zz_ok (zm_V l D ad cA tb)) (h : zz_X (zm_V l D ad cA tb) E "FrameProcessorModel" prog_10_method_33_code 7 zt_T 6 143 (some .boolean)) : ∀ (n : Nat) (x2 : Int32) (st : zz_S), zz_Z (zm_V l D ad cA tb) E 7 0 0 (zz_q (zm_V l D ad cA tb) E zz_ji) (MO_more_261 n x2 st) 261 [(0, .ref (ad 0)), (2, .int x2)] [] st
  | 0, _, _ => zz_none
  | n + 1, x2, st => MO_more_261b_w hV h (MO_more_261_w hV h n) x2 st
set_option maxRecDepth 100000 in
set_option maxHeartbeats 4000000 in
theorem MO_more_117_w {l : Launch} {D : va_G} {ad : Nat → Nat} {cA : Nat → ClassId} {tb : Nat} {E : zz_E} (hV : zz_ok (zm_V l D ad cA tb)) (h : zz_X (zm_V l D ad cA tb) E "FrameProcessorModel" prog_10_method_33_code 7 zt_T 6 143 (some .boolean)) (st : zz_S) : zz_Z (zm_V l D ad cA tb) E 7 0 0 (zz_q (zm_V l D ad cA tb) E zz_ji) (MO_more_117  st) 117 [(0, .ref (ad 0))] [] st := by
  unfold MO_more_117
  refine zz_aload_n h dMO_more_117 rfl ?_
  refine zm_g_MO_state h zi_MO zf_MO_23 dMO_more_118 ?_
  refine zz_aload_n h dMO_more_121 rfl ?_
  refine zm_g_MO_me h zi_MO zf_MO_113 dMO_more_122 ?_
  refine zz_topi (fun v_5 => ?_)
  refine zm_ld_5 h dMO_more_125 ?_
  refine zz_iconst (v := 2) h dMO_more_126 zz_li_2 ?_
  refine zz_icmp_eq h 134 dMO_more_127 rfl ?_ ?_
  · refine zz_iconst (v := 0) h dMO_more_134 zz_li_0 ?_
    exact zz_zret h dMO_more_135 (by decide +kernel)
  · refine zz_iconst (v := 1) h dMO_more_130 zz_li_1 ?_
    refine zz_goto h 135 dMO_more_131 rfl ?_
    exact zz_zret h dMO_more_135 (by decide +kernel)
set_option maxRecDepth 100000 in
set_option maxHeartbeats 4000000 in
theorem MO_more_w {l : Launch} {D : va_G} {ad : Nat → Nat} {cA : Nat → ClassId} {tb : Nat} {E : zz_E} (hV : zz_ok (zm_V l D ad cA tb)) (h : zz_X (zm_V l D ad cA tb) E "FrameProcessorModel" prog_10_method_33_code 7 zt_T 6 143 (some .boolean)) (x1 : Int32) (st : zz_S) : zz_Z (zm_V l D ad cA tb) E 7 0 0 (zz_q (zm_V l D ad cA tb) E zz_ji) (MO_more_f x1 st) 0 [(0, .ref (ad 0)), (1, .int x1)] [] st := by
  unfold MO_more_f
  refine zz_iload_n h dMO_more_0 rfl ?_
  refine zz_ite (fun c_6 => ?_) (fun c_6 => ?_)
  · refine zz_table (off := 75) h 76 dMO_more_1 c_6 (by decide) (by decide) (by decide) rfl ?_
    refine zz_aload_n h dMO_more_76 rfl ?_
    refine zz_callV0v h 0 rfl rfl (MO_fork_c hV _) MO_fork_k zm_MO_174 rfl rfl ⟨Nat.le_of_ble_eq_true rfl, Nat.le_of_ble_eq_true rfl⟩ (Nat.le_of_ble_eq_true rfl) dMO_more_77 (fun _ s_7 => ?_)
    refine zz_goto h 313 dMO_more_80 rfl ?_
    refine zz_iconst (v := 1) h dMO_more_313 zz_li_1 ?_
    exact zz_zret h dMO_more_314 (by decide +kernel)
  refine zz_ite (fun c_8 => ?_) (fun c_8 => ?_)
  · refine zz_table (off := 280) h 281 dMO_more_1 c_8 (by decide) (by decide) (by decide) rfl ?_
    refine zz_iload_n h dMO_more_281 rfl ?_
    refine zz_bipush (v := 8) h dMO_more_282 zz_lb_8 ?_
    refine zz_icmp_le h 293 dMO_more_284 rfl ?_ ?_
    · exact zz_sub (MO_more_293_w hV h _ _) rfl
    · refine zz_iload_n h dMO_more_287 rfl ?_
      refine zz_bipush (v := 17) h dMO_more_288 zz_lb_17 ?_
      refine zz_icmp_lt h 299 dMO_more_290 rfl ?_ ?_
      · exact zz_sub (MO_more_299_w hV h _ _) rfl
      · exact zz_sub (MO_more_293_w hV h _ _) rfl
  refine zz_ite (fun c_9 => ?_) (fun c_9 => ?_)
  · refine zz_table (off := 280) h 281 dMO_more_1 c_9 (by decide) (by decide) (by decide) rfl ?_
    refine zz_iload_n h dMO_more_281 rfl ?_
    refine zz_bipush (v := 8) h dMO_more_282 zz_lb_8 ?_
    refine zz_icmp_le h 293 dMO_more_284 rfl ?_ ?_
    · exact zz_sub (MO_more_293_w hV h _ _) rfl
    · refine zz_iload_n h dMO_more_287 rfl ?_
      refine zz_bipush (v := 17) h dMO_more_288 zz_lb_17 ?_
      refine zz_icmp_lt h 299 dMO_more_290 rfl ?_ ?_
      · exact zz_sub (MO_more_299_w hV h _ _) rfl
      · exact zz_sub (MO_more_293_w hV h _ _) rfl
  refine zz_ite (fun c_10 => ?_) (fun c_10 => ?_)
  · refine zz_table (off := 280) h 281 dMO_more_1 c_10 (by decide) (by decide) (by decide) rfl ?_
    refine zz_iload_n h dMO_more_281 rfl ?_
    refine zz_bipush (v := 8) h dMO_more_282 zz_lb_8 ?_
    refine zz_icmp_le h 293 dMO_more_284 rfl ?_ ?_
    · exact zz_sub (MO_more_293_w hV h _ _) rfl
    · refine zz_iload_n h dMO_more_287 rfl ?_
      refine zz_bipush (v := 17) h dMO_more_288 zz_lb_17 ?_
      refine zz_icmp_lt h 299 dMO_more_290 rfl ?_ ?_
      · exact zz_sub (MO_more_299_w hV h _ _) rfl
      · exact zz_sub (MO_more_293_w hV h _ _) rfl
  refine zz_ite (fun c_11 => ?_) (fun c_11 => ?_)
  · refine zz_table (off := 280) h 281 dMO_more_1 c_11 (by decide) (by decide) (by decide) rfl ?_
    refine zz_iload_n h dMO_more_281 rfl ?_
    refine zz_bipush (v := 8) h dMO_more_282 zz_lb_8 ?_
    refine zz_icmp_le h 293 dMO_more_284 rfl ?_ ?_
    · exact zz_sub (MO_more_293_w hV h _ _) rfl
    · refine zz_iload_n h dMO_more_287 rfl ?_
      refine zz_bipush (v := 17) h dMO_more_288 zz_lb_17 ?_
      refine zz_icmp_lt h 299 dMO_more_290 rfl ?_ ?_
      · exact zz_sub (MO_more_299_w hV h _ _) rfl
      · exact zz_sub (MO_more_293_w hV h _ _) rfl
  refine zz_ite (fun c_12 => ?_) (fun c_12 => ?_)
  · refine zz_table (off := 280) h 281 dMO_more_1 c_12 (by decide) (by decide) (by decide) rfl ?_
    refine zz_iload_n h dMO_more_281 rfl ?_
    refine zz_bipush (v := 8) h dMO_more_282 zz_lb_8 ?_
    refine zz_icmp_le h 293 dMO_more_284 rfl ?_ ?_
    · exact zz_sub (MO_more_293_w hV h _ _) rfl
    · refine zz_iload_n h dMO_more_287 rfl ?_
      refine zz_bipush (v := 17) h dMO_more_288 zz_lb_17 ?_
      refine zz_icmp_lt h 299 dMO_more_290 rfl ?_ ?_
      · exact zz_sub (MO_more_299_w hV h _ _) rfl
      · exact zz_sub (MO_more_293_w hV h _ _) rfl
  refine zz_ite (fun c_13 => ?_) (fun c_13 => ?_)
  · refine zz_table (off := 280) h 281 dMO_more_1 c_13 (by decide) (by decide) (by decide) rfl ?_
    refine zz_iload_n h dMO_more_281 rfl ?_
    refine zz_bipush (v := 8) h dMO_more_282 zz_lb_8 ?_
    refine zz_icmp_le h 293 dMO_more_284 rfl ?_ ?_
    · exact zz_sub (MO_more_293_w hV h _ _) rfl
    · refine zz_iload_n h dMO_more_287 rfl ?_
      refine zz_bipush (v := 17) h dMO_more_288 zz_lb_17 ?_
      refine zz_icmp_lt h 299 dMO_more_290 rfl ?_ ?_
      · exact zz_sub (MO_more_299_w hV h _ _) rfl
      · exact zz_sub (MO_more_293_w hV h _ _) rfl
  refine zz_ite (fun c_14 => ?_) (fun c_14 => ?_)
  · refine zz_table (off := 280) h 281 dMO_more_1 c_14 (by decide) (by decide) (by decide) rfl ?_
    refine zz_iload_n h dMO_more_281 rfl ?_
    refine zz_bipush (v := 8) h dMO_more_282 zz_lb_8 ?_
    refine zz_icmp_le h 293 dMO_more_284 rfl ?_ ?_
    · exact zz_sub (MO_more_293_w hV h _ _) rfl
    · refine zz_iload_n h dMO_more_287 rfl ?_
      refine zz_bipush (v := 17) h dMO_more_288 zz_lb_17 ?_
      refine zz_icmp_lt h 299 dMO_more_290 rfl ?_ ?_
      · exact zz_sub (MO_more_299_w hV h _ _) rfl
      · exact zz_sub (MO_more_293_w hV h _ _) rfl
  refine zz_ite (fun c_15 => ?_) (fun c_15 => ?_)
  · refine zz_table (off := 280) h 281 dMO_more_1 c_15 (by decide) (by decide) (by decide) rfl ?_
    refine zz_iload_n h dMO_more_281 rfl ?_
    refine zz_bipush (v := 8) h dMO_more_282 zz_lb_8 ?_
    refine zz_icmp_le h 293 dMO_more_284 rfl ?_ ?_
    · exact zz_sub (MO_more_293_w hV h _ _) rfl
    · refine zz_iload_n h dMO_more_287 rfl ?_
      refine zz_bipush (v := 17) h dMO_more_288 zz_lb_17 ?_
      refine zz_icmp_lt h 299 dMO_more_290 rfl ?_ ?_
      · exact zz_sub (MO_more_299_w hV h _ _) rfl
      · exact zz_sub (MO_more_293_w hV h _ _) rfl
  refine zz_ite (fun c_16 => ?_) (fun c_16 => ?_)
  · refine zz_table (off := 82) h 83 dMO_more_1 c_16 (by decide) (by decide) (by decide) rfl ?_
    refine zz_aload_n h dMO_more_83 rfl ?_
    refine zz_callV0i h 0 rfl rfl (MO_pop_c hV _) MO_pop_k zm_MO_138 rfl rfl ⟨Nat.le_of_ble_eq_true rfl, Nat.le_of_ble_eq_true rfl⟩ (Nat.le_of_ble_eq_true rfl) dMO_more_84 (fun r_18 s_17 => ?_)
    refine zz_istore_n h dMO_more_87 (Nat.le_of_ble_eq_true rfl) ?_
    refine zz_aload_n h dMO_more_88 rfl ?_
    refine zz_iload_n h dMO_more_89 rfl ?_
    refine zz_callV1i h 0 rfl rfl (MO_read_c hV _ _) MO_read_k zm_MO_85 rfl rfl ⟨Nat.le_of_ble_eq_true rfl, Nat.le_of_ble_eq_true rfl⟩ (Nat.le_of_ble_eq_true rfl) dMO_more_90 (fun r_20 s_19 => ?_)
    refine zz_if_ne h 105 dMO_more_93 rfl ?_ ?_
    · refine zz_aload_n h dMO_more_96 rfl ?_
      refine zz_iload_n h dMO_more_97 rfl ?_
      refine zz_iconst (v := 1) h dMO_more_98 zz_li_1 ?_
      refine zz_callV2v h 0 rfl rfl (MO_write_c hV _ _ _) MO_write_k zm_MO_103 rfl rfl ⟨Nat.le_of_ble_eq_true rfl, Nat.le_of_ble_eq_true rfl⟩ (Nat.le_of_ble_eq_true rfl) dMO_more_99 (fun _ s_21 => ?_)
      refine zz_goto h 117 dMO_more_102 rfl ?_
      exact zz_sub (MO_more_117_w hV h  _) rfl
    · refine zz_aload_n h dMO_more_105 rfl ?_
      refine zm_g_MO_fault h zi_MO zf_MO_68 dMO_more_106 ?_
      refine zz_if_ne h 117 dMO_more_109 rfl ?_ ?_
      · refine zz_aload_n h dMO_more_112 rfl ?_
        refine zz_iload_n h dMO_more_113 rfl ?_
        refine zz_callV1v h 0 rfl rfl (MO_block_c hV _ _) MO_block_k zm_MO_177 rfl rfl ⟨Nat.le_of_ble_eq_true rfl, Nat.le_of_ble_eq_true rfl⟩ (Nat.le_of_ble_eq_true rfl) dMO_more_114 (fun _ s_22 => ?_)
        exact zz_sub (MO_more_117_w hV h  _) rfl
      · exact zz_sub (MO_more_117_w hV h  _) rfl
  refine zz_ite (fun c_23 => ?_) (fun c_23 => ?_)
  · refine zz_table (off := 135) h 136 dMO_more_1 c_23 (by decide) (by decide) (by decide) rfl ?_
    refine zz_aload_n h dMO_more_136 rfl ?_
    refine zz_aload_n h dMO_more_137 rfl ?_
    refine zz_callV0i h 0 rfl rfl (MO_pop_c hV _) MO_pop_k zm_MO_138 rfl rfl ⟨Nat.le_of_ble_eq_true rfl, Nat.le_of_ble_eq_true rfl⟩ (Nat.le_of_ble_eq_true rfl) dMO_more_138 (fun r_25 s_24 => ?_)
    refine zz_callV1v h 0 rfl rfl (MO_exit_c hV _ _) MO_exit_k zm_MO_180 rfl rfl ⟨Nat.le_of_ble_eq_true rfl, Nat.le_of_ble_eq_true rfl⟩ (Nat.le_of_ble_eq_true rfl) dMO_more_141 (fun _ s_26 => ?_)
    refine zz_goto h 313 dMO_more_144 rfl ?_
    refine zz_iconst (v := 1) h dMO_more_313 zz_li_1 ?_
    exact zz_zret h dMO_more_314 (by decide +kernel)
  refine zz_ite (fun c_27 => ?_) (fun c_27 => ?_)
  · refine zz_table (off := 146) h 147 dMO_more_1 c_27 (by decide) (by decide) (by decide) rfl ?_
    refine zz_aload_n h dMO_more_147 rfl ?_
    refine zz_callV0i h 0 rfl rfl (MO_pop_c hV _) MO_pop_k zm_MO_138 rfl rfl ⟨Nat.le_of_ble_eq_true rfl, Nat.le_of_ble_eq_true rfl⟩ (Nat.le_of_ble_eq_true rfl) dMO_more_148 (fun r_29 s_28 => ?_)
    refine zz_istore_n h dMO_more_151 (Nat.le_of_ble_eq_true rfl) ?_
    refine zz_aload_n h dMO_more_152 rfl ?_
    refine zz_callV0i h 0 rfl rfl (MO_pop_c hV _) MO_pop_k zm_MO_138 rfl rfl ⟨Nat.le_of_ble_eq_true rfl, Nat.le_of_ble_eq_true rfl⟩ (Nat.le_of_ble_eq_true rfl) dMO_more_153 (fun r_31 s_30 => ?_)
    refine zz_istore h dMO_more_156 (Nat.le_of_ble_eq_true rfl) ?_
    refine zz_aload_n h dMO_more_158 rfl ?_
    refine zz_aload_n h dMO_more_159 rfl ?_
    refine zz_callV0i h 0 rfl rfl (MO_pop_c hV _) MO_pop_k zm_MO_138 rfl rfl ⟨Nat.le_of_ble_eq_true rfl, Nat.le_of_ble_eq_true rfl⟩ (Nat.le_of_ble_eq_true rfl) dMO_more_160 (fun r_33 s_32 => ?_)
    refine zz_callV1v h 0 rfl rfl (MO_exit_c hV _ _) MO_exit_k zm_MO_180 rfl rfl ⟨Nat.le_of_ble_eq_true rfl, Nat.le_of_ble_eq_true rfl⟩ (Nat.le_of_ble_eq_true rfl) dMO_more_163 (fun _ s_34 => ?_)
    refine zz_aload_n h dMO_more_166 rfl ?_
    refine zz_iload h dMO_more_167 rfl ?_
    refine zz_callV1i h 0 rfl rfl (MO_read_c hV _ _) MO_read_k zm_MO_85 rfl rfl ⟨Nat.le_of_ble_eq_true rfl, Nat.le_of_ble_eq_true rfl⟩ (Nat.le_of_ble_eq_true rfl) dMO_more_169 (fun r_36 s_35 => ?_)
    refine zz_istore h dMO_more_172 (Nat.le_of_ble_eq_true rfl) ?_
    refine zz_iload h dMO_more_174 rfl ?_
    refine zz_iconst (v := 2) h dMO_more_176 zz_li_2 ?_
    refine zz_irem h dMO_more_177 (by decide) ?_
    refine zz_iconst (v := 1) h dMO_more_178 zz_li_1 ?_
    refine zz_icmp_ne h 195 dMO_more_179 rfl ?_ ?_
    · refine zz_aload_n h dMO_more_182 rfl ?_
      refine zz_iload h dMO_more_183 rfl ?_
      refine zz_iload h dMO_more_185 rfl ?_
      refine zz_iconst (v := 1) h dMO_more_187 zz_li_1 ?_
      refine zz_isub h dMO_more_188 ?_
      refine zz_callV2v h 0 rfl rfl (MO_write_c hV _ _ _) MO_write_k zm_MO_103 rfl rfl ⟨Nat.le_of_ble_eq_true rfl, Nat.le_of_ble_eq_true rfl⟩ (Nat.le_of_ble_eq_true rfl) dMO_more_189 (fun _ s_37 => ?_)
      refine zz_goto h 313 dMO_more_192 rfl ?_
      refine zz_iconst (v := 1) h dMO_more_313 zz_li_1 ?_
      exact zz_zret h dMO_more_314 (by decide +kernel)
    · refine zz_aload_n h dMO_more_195 rfl ?_
      refine zm_g_MO_fault h zi_MO zf_MO_68 dMO_more_196 ?_
      refine zz_if_ne h 313 dMO_more_199 rfl ?_ ?_
      · refine zz_aload_n h dMO_more_202 rfl ?_
        refine zm_g_MO_state h zi_MO zf_MO_23 dMO_more_203 ?_
        refine zz_aload_n h dMO_more_206 rfl ?_
        refine zm_g_MO_me h zi_MO zf_MO_113 dMO_more_207 ?_
        refine zz_iconst (v := 3) h dMO_more_210 zz_li_3 ?_
        refine zz_top2 (fun v_38 => ?_)
        refine zm_st_5 h dMO_more_211 (fun s_39 => ?_)
        refine zz_aload_n h dMO_more_212 rfl ?_
        refine zm_g_MO_where h zi_MO zf_MO_38 dMO_more_213 ?_
        refine zz_aload_n h dMO_more_216 rfl ?_
        refine zm_g_MO_me h zi_MO zf_MO_113 dMO_more_217 ?_
        refine zz_iload h dMO_more_220 rfl ?_
        refine zz_sipush (v := 4095) h dMO_more_222 zz_ls_4095 ?_
        refine zz_iand h dMO_more_225 ?_
        refine zz_top2 (fun v_40 => ?_)
        refine zm_st_10 h dMO_more_226 (fun s_41 => ?_)
        refine zz_aload_n h dMO_more_227 rfl ?_
        refine zm_g_MO_timeout h zi_MO zf_MO_41 dMO_more_228 ?_
        refine zz_aload_n h dMO_more_231 rfl ?_
        refine zm_g_MO_me h zi_MO zf_MO_113 dMO_more_232 ?_
        refine zz_iload_n h dMO_more_235 rfl ?_
        refine zz_top2 (fun v_42 => ?_)
        refine zm_st_11 h dMO_more_236 (fun s_43 => ?_)
        refine zz_goto h 313 dMO_more_237 rfl ?_
        refine zz_iconst (v := 1) h dMO_more_313 zz_li_1 ?_
        exact zz_zret h dMO_more_314 (by decide +kernel)
      · refine zz_iconst (v := 1) h dMO_more_313 zz_li_1 ?_
        exact zz_zret h dMO_more_314 (by decide +kernel)
  refine zz_ite (fun c_44 => ?_) (fun c_44 => ?_)
  · refine zz_table (off := 239) h 240 dMO_more_1 c_44 (by decide) (by decide) (by decide) rfl ?_
    refine zz_aload_n h dMO_more_240 rfl ?_
    refine zz_callV0i h 0 rfl rfl (MO_pop_c hV _) MO_pop_k zm_MO_138 rfl rfl ⟨Nat.le_of_ble_eq_true rfl, Nat.le_of_ble_eq_true rfl⟩ (Nat.le_of_ble_eq_true rfl) dMO_more_241 (fun r_46 s_45 => ?_)
    refine zz_istore_n h dMO_more_244 (Nat.le_of_ble_eq_true rfl) ?_
    refine zz_aload_n h dMO_more_245 rfl ?_
    refine zz_iconst (v := 3) h dMO_more_246 zz_li_3 ?_
    refine zz_iload_n h dMO_more_247 rfl ?_
    refine zz_callV2i h 0 rfl rfl (MO_wake_c hV _ _ _) MO_wake_k zm_MO_183 rfl rfl ⟨Nat.le_of_ble_eq_true rfl, Nat.le_of_ble_eq_true rfl⟩ (Nat.le_of_ble_eq_true rfl) dMO_more_248 (fun r_48 s_47 => ?_)
    refine zz_istore h dMO_more_251 (Nat.le_of_ble_eq_true rfl) ?_
    refine zz_goto h 313 dMO_more_253 rfl ?_
    refine zz_iconst (v := 1) h dMO_more_313 zz_li_1 ?_
    exact zz_zret h dMO_more_314 (by decide +kernel)
  refine zz_ite (fun c_49 => ?_) (fun c_49 => ?_)
  · refine zz_table (off := 255) h 256 dMO_more_1 c_49 (by decide) (by decide) (by decide) rfl ?_
    refine zz_aload_n h dMO_more_256 rfl ?_
    refine zz_callV0i h 0 rfl rfl (MO_pop_c hV _) MO_pop_k zm_MO_138 rfl rfl ⟨Nat.le_of_ble_eq_true rfl, Nat.le_of_ble_eq_true rfl⟩ (Nat.le_of_ble_eq_true rfl) dMO_more_257 (fun r_51 s_50 => ?_)
    refine zz_istore_n h dMO_more_260 (Nat.le_of_ble_eq_true rfl) ?_
    exact zz_sub (MO_more_261_w hV h _ _ _) rfl
  refine zz_ite (fun c_52 => ?_) (fun c_52 => ?_)
  · refine zz_table (off := 272) h 273 dMO_more_1 c_52 (by decide) (by decide) (by decide) rfl ?_
    refine zz_aload_n h dMO_more_273 rfl ?_
    refine zz_iconst (v := 1) h dMO_more_274 zz_li_1 ?_
    refine zm_p_MO_yields h zi_MO zf_MO_187 dMO_more_275 (fun s_53 => ?_)
    refine zz_goto h 313 dMO_more_278 rfl ?_
    refine zz_iconst (v := 1) h dMO_more_313 zz_li_1 ?_
    exact zz_zret h dMO_more_314 (by decide +kernel)
  refine zz_tableD h 281 dMO_more_1 (by have z0 := lv_neT (a := 31) c_6 (by decide); have z1 := lv_neT (a := 32) c_8 (by decide); have z2 := lv_neT (a := 33) c_9 (by decide); have z3 := lv_neT (a := 34) c_10 (by decide); have z4 := lv_neT (a := 35) c_11 (by decide); have z5 := lv_neT (a := 36) c_12 (by decide); have z6 := lv_neT (a := 37) c_13 (by decide); have z7 := lv_neT (a := 38) c_14 (by decide); have z8 := lv_neT (a := 39) c_15 (by decide); have z9 := lv_neT (a := 40) c_16 (by decide); have z10 := lv_neT (a := 41) c_23 (by decide); have z11 := lv_neT (a := 42) c_27 (by decide); have z12 := lv_neT (a := 43) c_44 (by decide); have z13 := lv_neT (a := 44) c_49 (by decide); have z14 := lv_neT (a := 45) c_52 (by decide); omega) rfl ?_
  refine zz_iload_n h dMO_more_281 rfl ?_
  refine zz_bipush (v := 8) h dMO_more_282 zz_lb_8 ?_
  refine zz_icmp_le h 293 dMO_more_284 rfl ?_ ?_
  · exact zz_sub (MO_more_293_w hV h _ _) rfl
  · refine zz_iload_n h dMO_more_287 rfl ?_
    refine zz_bipush (v := 17) h dMO_more_288 zz_lb_17 ?_
    refine zz_icmp_lt h 299 dMO_more_290 rfl ?_ ?_
    · exact zz_sub (MO_more_299_w hV h _ _) rfl
    · exact zz_sub (MO_more_293_w hV h _ _) rfl
theorem MO_more_c {l : Launch} {D : va_G} {ad : Nat → Nat} {cA : Nat → ClassId} {tb : Nat} (hV : zz_ok (zm_V l D ad cA tb)) (x1 : Int32) (st : zz_S) : zz_C (zm_V l D ad cA tb) yMO_more (Cond.code yMO_more prog_10_method_33_code 7 (some .boolean) :: zt_T) { frames := 6, cells := 0, slots := 0, locals := 143 } zz_ji [.ref (ad 0), .int x1] st (MO_more_f x1 st) := zz_met hV (by decide +kernel) rfl (Nat.le_of_ble_eq_true rfl) rfl (fun E h => MO_more_w hV h x1 st)
def MO_act_457 (y0 : Int32) (st : zz_S) : Option (Int32 × zz_S) := (zz_nm (zz_sp st 5 y0) fun s_1 => (some ((1 : Int32), s_1)))
def MO_act_453 (st : zz_S) : Option (Int32 × zz_S) := (MO_act_457 (zz_sg st 5) st)
def MO_act_407 (y0 : Int32) (st : zz_S) : Option (Int32 × zz_S) := (zz_nm (zz_sp st 5 y0) fun s_2 => (some ((1 : Int32), s_2)))
def MO_act_403 (st : zz_S) : Option (Int32 × zz_S) := (MO_act_407 (zz_sg st 5) st)
def MO_act_46 (x1 : Int32) (x2 : Int32) (x3 : Int32) (y0 : Int32) (st : zz_S) : Option (Int32 × zz_S) := (if x2 = (0 : Int32) then (some ((1 : Int32), st)) else (if x2 = (1 : Int32) then (zz_bd (MO_push_f y0 st) fun _ s_5 => (some ((1 : Int32), s_5))) else (if x2 = (2 : Int32) then (zz_bd (MO_nextByte_f st) fun r_8 s_7 => (zz_bd (MO_push_f (((256 : Int32) * y0) + r_8) s_7) fun _ s_9 => (some ((1 : Int32), s_9)))) else (if x2 = (3 : Int32) then (zz_bd (MO_read_f ((x3 + (4 : Int32)) + y0) st) fun r_12 s_11 => (zz_bd (MO_push_f r_12 s_11) fun _ s_13 => (some ((1 : Int32), s_13)))) else (if x2 = (4 : Int32) then (zz_bd (MO_pop_f st) fun r_16 s_15 => (zz_bd (MO_write_f ((x3 + (4 : Int32)) + y0) r_16 s_15) fun _ s_17 => (some ((1 : Int32), s_17)))) else (if x2 = (5 : Int32) then (zz_bd (MO_read_f (((zz_sg st 7) + (1 : Int32)) + y0) st) fun r_20 s_19 => (zz_bd (MO_push_f r_20 s_19) fun _ s_21 => (some ((1 : Int32), s_21)))) else (if x2 = (6 : Int32) then (zz_bd (MO_pop_f st) fun r_24 s_23 => (zz_bd (MO_write_f (((zz_sg st 7) + (1 : Int32)) + y0) r_24 s_23) fun _ s_25 => (some ((1 : Int32), s_25)))) else (if x2 = (7 : Int32) then (zz_bd (MO_pop_f st) fun r_28 s_27 => (zz_bd (MO_read_f (r_28 + y0) s_27) fun r_30 s_29 => (zz_bd (MO_push_f r_30 s_29) fun _ s_31 => (some ((1 : Int32), s_31))))) else (if x2 = (8 : Int32) then (zz_bd (MO_pop_f st) fun r_34 s_33 => (zz_bd (MO_pop_f s_33) fun r_36 s_35 => (zz_bd (MO_write_f (r_34 + y0) r_36 s_35) fun _ s_37 => (some ((1 : Int32), s_37))))) else (if x2 = (9 : Int32) then (zz_bd (MO_more_f x2 st) fun r_40 s_39 => (zz_gd (zz_bo r_40) (some (r_40, s_39)))) else (if x2 = (10 : Int32) then (zz_bd (MO_more_f x2 st) fun r_43 s_42 => (zz_gd (zz_bo r_43) (some (r_43, s_42)))) else (if x2 = (11 : Int32) then (zz_bd (MO_more_f x2 st) fun r_46 s_45 => (zz_gd (zz_bo r_46) (some (r_46, s_45)))) else (if x2 = (12 : Int32) then (zz_bd (MO_more_f x2 st) fun r_49 s_48 => (zz_gd (zz_bo r_49) (some (r_49, s_48)))) else (if x2 = (13 : Int32) then (zz_bd (MO_more_f x2 st) fun r_52 s_51 => (zz_gd (zz_bo r_52) (some (r_52, s_51)))) else (if x2 = (14 : Int32) then (zz_bd (MO_more_f x2 st) fun r_55 s_54 => (zz_gd (zz_bo r_55) (some (r_55, s_54)))) else (if x2 = (15 : Int32) then (zz_bd (MO_more_f x2 st) fun r_58 s_57 => (zz_gd (zz_bo r_58) (some (r_58, s_57)))) else (if x2 = (16 : Int32) then (zz_bd (MO_more_f x2 st) fun r_61 s_60 => (zz_gd (zz_bo r_61) (some (r_61, s_60)))) else (if x2 = (17 : Int32) then (zz_bd (MO_pop_f st) fun r_64 s_63 => (zz_bd (MO_push_f r_64 s_63) fun _ s_65 => (zz_bd (MO_push_f r_64 s_65) fun _ s_66 => (some ((1 : Int32), s_66))))) else (if x2 = (18 : Int32) then (zz_bd (MO_pop_f st) fun r_69 s_68 => (some ((1 : Int32), s_68))) else (if x2 = (19 : Int32) then (zz_bd (MO_more_f x2 st) fun r_72 s_71 => (zz_gd (zz_bo r_72) (some (r_72, s_71)))) else (if x2 = (20 : Int32) then (zz_bd (MO_low_f (x1 + y0.toInt8.toInt32) st) fun r_75 s_74 => (zz_nm (zz_sp s_74 5 r_75) fun s_76 => (some ((1 : Int32), s_76)))) else (if x2 = (21 : Int32) then (zz_bd (MO_pop_f st) fun r_79 s_78 => (if r_79 = 0 then (if (zz_sg s_78 2) = 0 then (zz_bd (MO_low_f (x1 + y0.toInt8.toInt32) s_78) fun r_81 s_80 => (MO_act_407 r_81 s_80)) else (MO_act_403 s_78)) else (MO_act_403 s_78))) else (if x2 = (22 : Int32) then (zz_bd (MO_pop_f st) fun r_84 s_83 => (zz_bd (MO_signed_f r_84 s_83) fun r_86 s_85 => (zz_bd (MO_pop_f s_85) fun r_88 s_87 => (zz_bd (MO_signed_f r_88 s_87) fun r_90 s_89 => (if r_86 ≤ r_90 then (MO_act_453 s_89) else (if (zz_sg s_89 2) = 0 then (zz_bd (MO_low_f (x1 + y0.toInt8.toInt32) s_89) fun r_92 s_91 => (MO_act_457 r_92 s_91)) else (MO_act_453 s_89))))))) else (if x2 = (23 : Int32) then (zz_bd (MO_pop_f st) fun r_95 s_94 => (zz_bd (MO_field_f r_95 y0 s_94) fun r_97 s_96 => (zz_bd (MO_push_f r_97 s_96) fun _ s_98 => (some ((1 : Int32), s_98))))) else (if x2 = (24 : Int32) then (zz_bd (MO_pop_f st) fun r_101 s_100 => (zz_bd (MO_pop_f s_100) fun r_103 s_102 => (zz_bd (MO_placed_f r_103 r_101 y0 s_102) fun r_105 s_104 => (zz_bd (MO_push_f r_105 s_104) fun _ s_106 => (some ((1 : Int32), s_106)))))) else (if x2 = (25 : Int32) then (zz_bd (MO_call_f ((((32 : Int32) * (zz_sg st 8)) + ((2 : Int32) * (y0 &&& (15 : Int32)))) + (1 : Int32)) st) fun _ s_108 => (some ((0 : Int32), s_108))) else (if x2 = (26 : Int32) then (zz_bd (MO_read_f (((zz_sg st 7) - (1 : Int32)) - y0) st) fun r_111 s_110 => (zz_bd (MO_call_f r_111 s_110) fun _ s_112 => (some ((0 : Int32), s_112)))) else (if x2 = (27 : Int32) then (zz_bd (MO_giveBack_f st) fun _ s_114 => (some ((0 : Int32), s_114))) else (if x2 = (28 : Int32) then (zz_bd (MO_pop_f st) fun r_117 s_116 => (zz_bd (MO_call_f r_117 s_116) fun _ s_118 => (some ((0 : Int32), s_118)))) else (if x2 = (29 : Int32) then (zz_bd (MO_take_f (y0 &&& (7 : Int32)) st) fun r_121 s_120 => (zz_bd (MO_push_f r_121 s_120) fun _ s_122 => (some ((1 : Int32), s_122)))) else (if x2 = (30 : Int32) then (zz_bd (MO_pop_f st) fun r_125 s_124 => (zz_bd (MO_give_f r_125 s_124) fun _ s_126 => (some ((1 : Int32), s_126)))) else (zz_bd (MO_more_f x2 st) fun r_128 s_127 => (zz_gd (zz_bo r_128) (some (r_128, s_127)))))))))))))))))))))))))))))))))))
def MO_act_38 (x1 : Int32) (x2 : Int32) (x3 : Int32) (st : zz_S) : Option (Int32 × zz_S) := (zz_bd (MO_nextByte_f st) fun r_130 s_129 => (MO_act_46 x1 x2 x3 r_130 s_129))
def MO_act_32 (x1 : Int32) (x2 : Int32) (x3 : Int32) (st : zz_S) : Option (Int32 × zz_S) := (if x2 = (29 : Int32) then (MO_act_38 x1 x2 x3 st) else (MO_act_46 x1 x2 x3 (0 : Int32) st))
def MO_act_20 (x1 : Int32) (x2 : Int32) (x3 : Int32) (st : zz_S) : Option (Int32 × zz_S) := (if x2 ≤ (19 : Int32) then (MO_act_32 x1 x2 x3 st) else (if x2 < (27 : Int32) then (MO_act_38 x1 x2 x3 st) else (MO_act_32 x1 x2 x3 st)))
def MO_act_f (x1 : Int32) (x2 : Int32) (st : zz_S) : Option (Int32 × zz_S) := (zz_nm (zz_sg st 3) fun v_131 => (zz_gd (zz_in v_131 6) (zz_nm (zz_ag st 7 v_131.toNatClampNeg) fun v_132 => (if x2 ≤ 0 then (MO_act_20 x1 x2 v_132 st) else (if x2 < (9 : Int32) then (MO_act_38 x1 x2 v_132 st) else (MO_act_20 x1 x2 v_132 st))))))
set_option maxRecDepth 100000 in
set_option maxHeartbeats 4000000 in
theorem MO_act_457_w {l : Launch} {D : va_G} {ad : Nat → Nat} {cA : Nat → ClassId} {tb : Nat} {E : zz_E} (hV : zz_ok (zm_V l D ad cA tb)) (h : zz_X (zm_V l D ad cA tb) E "FrameProcessorModel" prog_10_method_32_code 7 zt_T 7 169 (some .boolean)) (y0 : Int32) (st : zz_S) : zz_Z (zm_V l D ad cA tb) E 7 0 0 (zz_q (zm_V l D ad cA tb) E zz_ji) (MO_act_457 y0 st) 457 [] [.int y0, .ref (ad 0)] st := by
  unfold MO_act_457
  refine zm_p_MO_next h zi_MO zf_MO_91 dMO_act_457 (fun s_1 => ?_)
  refine zz_goto h 594 dMO_act_460 rfl ?_
  refine zz_iconst (v := 1) h dMO_act_594 zz_li_1 ?_
  exact zz_zret h dMO_act_595 (by decide +kernel)
set_option maxRecDepth 100000 in
set_option maxHeartbeats 4000000 in
theorem MO_act_453_w {l : Launch} {D : va_G} {ad : Nat → Nat} {cA : Nat → ClassId} {tb : Nat} {E : zz_E} (hV : zz_ok (zm_V l D ad cA tb)) (h : zz_X (zm_V l D ad cA tb) E "FrameProcessorModel" prog_10_method_32_code 7 zt_T 7 169 (some .boolean)) (st : zz_S) : zz_Z (zm_V l D ad cA tb) E 7 0 0 (zz_q (zm_V l D ad cA tb) E zz_ji) (MO_act_453  st) 453 [(0, .ref (ad 0))] [.ref (ad 0)] st := by
  unfold MO_act_453
  refine zz_aload_n h dMO_act_453 rfl ?_
  refine zm_g_MO_next h zi_MO zf_MO_91 dMO_act_454 ?_
  exact zz_sub (MO_act_457_w hV h _ _) rfl
set_option maxRecDepth 100000 in
set_option maxHeartbeats 4000000 in
theorem MO_act_407_w {l : Launch} {D : va_G} {ad : Nat → Nat} {cA : Nat → ClassId} {tb : Nat} {E : zz_E} (hV : zz_ok (zm_V l D ad cA tb)) (h : zz_X (zm_V l D ad cA tb) E "FrameProcessorModel" prog_10_method_32_code 7 zt_T 7 169 (some .boolean)) (y0 : Int32) (st : zz_S) : zz_Z (zm_V l D ad cA tb) E 7 0 0 (zz_q (zm_V l D ad cA tb) E zz_ji) (MO_act_407 y0 st) 407 [] [.int y0, .ref (ad 0)] st := by
  unfold MO_act_407
  refine zm_p_MO_next h zi_MO zf_MO_91 dMO_act_407 (fun s_2 => ?_)
  refine zz_goto h 594 dMO_act_410 rfl ?_
  refine zz_iconst (v := 1) h dMO_act_594 zz_li_1 ?_
  exact zz_zret h dMO_act_595 (by decide +kernel)
set_option maxRecDepth 100000 in
set_option maxHeartbeats 4000000 in
theorem MO_act_403_w {l : Launch} {D : va_G} {ad : Nat → Nat} {cA : Nat → ClassId} {tb : Nat} {E : zz_E} (hV : zz_ok (zm_V l D ad cA tb)) (h : zz_X (zm_V l D ad cA tb) E "FrameProcessorModel" prog_10_method_32_code 7 zt_T 7 169 (some .boolean)) (st : zz_S) : zz_Z (zm_V l D ad cA tb) E 7 0 0 (zz_q (zm_V l D ad cA tb) E zz_ji) (MO_act_403  st) 403 [(0, .ref (ad 0))] [.ref (ad 0)] st := by
  unfold MO_act_403
  refine zz_aload_n h dMO_act_403 rfl ?_
  refine zm_g_MO_next h zi_MO zf_MO_91 dMO_act_404 ?_
  exact zz_sub (MO_act_407_w hV h _ _) rfl
set_option maxRecDepth 100000 in
set_option maxHeartbeats 4000000 in
theorem MO_act_46_w {l : Launch} {D : va_G} {ad : Nat → Nat} {cA : Nat → ClassId} {tb : Nat} {E : zz_E} (hV : zz_ok (zm_V l D ad cA tb)) (h : zz_X (zm_V l D ad cA tb) E "FrameProcessorModel" prog_10_method_32_code 7 zt_T 7 169 (some .boolean)) (x1 : Int32) (x2 : Int32) (x3 : Int32) (y0 : Int32) (st : zz_S) : zz_Z (zm_V l D ad cA tb) E 7 0 0 (zz_q (zm_V l D ad cA tb) E zz_ji) (MO_act_46 x1 x2 x3 y0 st) 46 [(0, .ref (ad 0)), (1, .int x1), (2, .int x2), (3, .int x3)] [.int y0] st := by
  unfold MO_act_46
  refine zz_istore h dMO_act_46 (Nat.le_of_ble_eq_true rfl) ?_
  refine zz_iload_n h dMO_act_48 rfl ?_
  refine zz_ite (fun c_3 => ?_) (fun c_3 => ?_)
  · refine zz_table (off := 139) h 188 dMO_act_49 c_3 (by decide) (by decide) (by decide) rfl ?_
    refine zz_goto h 594 dMO_act_188 rfl ?_
    refine zz_iconst (v := 1) h dMO_act_594 zz_li_1 ?_
    exact zz_zret h dMO_act_595 (by decide +kernel)
  refine zz_ite (fun c_4 => ?_) (fun c_4 => ?_)
  · refine zz_table (off := 142) h 191 dMO_act_49 c_4 (by decide) (by decide) (by decide) rfl ?_
    refine zz_aload_n h dMO_act_191 rfl ?_
    refine zz_iload h dMO_act_192 rfl ?_
    refine zz_callV1v h 0 rfl rfl (MO_push_c hV _ _) MO_push_k zm_MO_145 rfl rfl ⟨Nat.le_of_ble_eq_true rfl, Nat.le_of_ble_eq_true rfl⟩ (Nat.le_of_ble_eq_true rfl) dMO_act_194 (fun _ s_5 => ?_)
    refine zz_goto h 594 dMO_act_197 rfl ?_
    refine zz_iconst (v := 1) h dMO_act_594 zz_li_1 ?_
    exact zz_zret h dMO_act_595 (by decide +kernel)
  refine zz_ite (fun c_6 => ?_) (fun c_6 => ?_)
  · refine zz_table (off := 151) h 200 dMO_act_49 c_6 (by decide) (by decide) (by decide) rfl ?_
    refine zz_aload_n h dMO_act_200 rfl ?_
    refine zz_sipush (v := 256) h dMO_act_201 zz_ls_256 ?_
    refine zz_iload h dMO_act_204 rfl ?_
    refine zz_imul h dMO_act_206 ?_
    refine zz_aload_n h dMO_act_207 rfl ?_
    refine zz_callV0i h 0 rfl rfl (MO_nextByte_c hV _) MO_nextByte_k zm_MO_148 rfl rfl ⟨Nat.le_of_ble_eq_true rfl, Nat.le_of_ble_eq_true rfl⟩ (Nat.le_of_ble_eq_true rfl) dMO_act_208 (fun r_8 s_7 => ?_)
    refine zz_iadd h dMO_act_211 ?_
    refine zz_callV1v h 0 rfl rfl (MO_push_c hV _ _) MO_push_k zm_MO_145 rfl rfl ⟨Nat.le_of_ble_eq_true rfl, Nat.le_of_ble_eq_true rfl⟩ (Nat.le_of_ble_eq_true rfl) dMO_act_212 (fun _ s_9 => ?_)
    refine zz_goto h 594 dMO_act_215 rfl ?_
    refine zz_iconst (v := 1) h dMO_act_594 zz_li_1 ?_
    exact zz_zret h dMO_act_595 (by decide +kernel)
  refine zz_ite (fun c_10 => ?_) (fun c_10 => ?_)
  · refine zz_table (off := 169) h 218 dMO_act_49 c_10 (by decide) (by decide) (by decide) rfl ?_
    refine zz_aload_n h dMO_act_218 rfl ?_
    refine zz_aload_n h dMO_act_219 rfl ?_
    refine zz_iload_n h dMO_act_220 rfl ?_
    refine zz_iconst (v := 4) h dMO_act_221 zz_li_4 ?_
    refine zz_iadd h dMO_act_222 ?_
    refine zz_iload h dMO_act_223 rfl ?_
    refine zz_iadd h dMO_act_225 ?_
    refine zz_callV1i h 0 rfl rfl (MO_read_c hV _ _) MO_read_k zm_MO_85 rfl rfl ⟨Nat.le_of_ble_eq_true rfl, Nat.le_of_ble_eq_true rfl⟩ (Nat.le_of_ble_eq_true rfl) dMO_act_226 (fun r_12 s_11 => ?_)
    refine zz_callV1v h 0 rfl rfl (MO_push_c hV _ _) MO_push_k zm_MO_145 rfl rfl ⟨Nat.le_of_ble_eq_true rfl, Nat.le_of_ble_eq_true rfl⟩ (Nat.le_of_ble_eq_true rfl) dMO_act_229 (fun _ s_13 => ?_)
    refine zz_goto h 594 dMO_act_232 rfl ?_
    refine zz_iconst (v := 1) h dMO_act_594 zz_li_1 ?_
    exact zz_zret h dMO_act_595 (by decide +kernel)
  refine zz_ite (fun c_14 => ?_) (fun c_14 => ?_)
  · refine zz_table (off := 186) h 235 dMO_act_49 c_14 (by decide) (by decide) (by decide) rfl ?_
    refine zz_aload_n h dMO_act_235 rfl ?_
    refine zz_iload_n h dMO_act_236 rfl ?_
    refine zz_iconst (v := 4) h dMO_act_237 zz_li_4 ?_
    refine zz_iadd h dMO_act_238 ?_
    refine zz_iload h dMO_act_239 rfl ?_
    refine zz_iadd h dMO_act_241 ?_
    refine zz_aload_n h dMO_act_242 rfl ?_
    refine zz_callV0i h 0 rfl rfl (MO_pop_c hV _) MO_pop_k zm_MO_138 rfl rfl ⟨Nat.le_of_ble_eq_true rfl, Nat.le_of_ble_eq_true rfl⟩ (Nat.le_of_ble_eq_true rfl) dMO_act_243 (fun r_16 s_15 => ?_)
    refine zz_callV2v h 0 rfl rfl (MO_write_c hV _ _ _) MO_write_k zm_MO_103 rfl rfl ⟨Nat.le_of_ble_eq_true rfl, Nat.le_of_ble_eq_true rfl⟩ (Nat.le_of_ble_eq_true rfl) dMO_act_246 (fun _ s_17 => ?_)
    refine zz_goto h 594 dMO_act_249 rfl ?_
    refine zz_iconst (v := 1) h dMO_act_594 zz_li_1 ?_
    exact zz_zret h dMO_act_595 (by decide +kernel)
  refine zz_ite (fun c_18 => ?_) (fun c_18 => ?_)
  · refine zz_table (off := 203) h 252 dMO_act_49 c_18 (by decide) (by decide) (by decide) rfl ?_
    refine zz_aload_n h dMO_act_252 rfl ?_
    refine zz_aload_n h dMO_act_253 rfl ?_
    refine zz_aload_n h dMO_act_254 rfl ?_
    refine zm_g_MO_globals h zi_MO zf_MO_151 dMO_act_255 ?_
    refine zz_iconst (v := 1) h dMO_act_258 zz_li_1 ?_
    refine zz_iadd h dMO_act_259 ?_
    refine zz_iload h dMO_act_260 rfl ?_
    refine zz_iadd h dMO_act_262 ?_
    refine zz_callV1i h 0 rfl rfl (MO_read_c hV _ _) MO_read_k zm_MO_85 rfl rfl ⟨Nat.le_of_ble_eq_true rfl, Nat.le_of_ble_eq_true rfl⟩ (Nat.le_of_ble_eq_true rfl) dMO_act_263 (fun r_20 s_19 => ?_)
    refine zz_callV1v h 0 rfl rfl (MO_push_c hV _ _) MO_push_k zm_MO_145 rfl rfl ⟨Nat.le_of_ble_eq_true rfl, Nat.le_of_ble_eq_true rfl⟩ (Nat.le_of_ble_eq_true rfl) dMO_act_266 (fun _ s_21 => ?_)
    refine zz_goto h 594 dMO_act_269 rfl ?_
    refine zz_iconst (v := 1) h dMO_act_594 zz_li_1 ?_
    exact zz_zret h dMO_act_595 (by decide +kernel)
  refine zz_ite (fun c_22 => ?_) (fun c_22 => ?_)
  · refine zz_table (off := 223) h 272 dMO_act_49 c_22 (by decide) (by decide) (by decide) rfl ?_
    refine zz_aload_n h dMO_act_272 rfl ?_
    refine zz_aload_n h dMO_act_273 rfl ?_
    refine zm_g_MO_globals h zi_MO zf_MO_151 dMO_act_274 ?_
    refine zz_iconst (v := 1) h dMO_act_277 zz_li_1 ?_
    refine zz_iadd h dMO_act_278 ?_
    refine zz_iload h dMO_act_279 rfl ?_
    refine zz_iadd h dMO_act_281 ?_
    refine zz_aload_n h dMO_act_282 rfl ?_
    refine zz_callV0i h 0 rfl rfl (MO_pop_c hV _) MO_pop_k zm_MO_138 rfl rfl ⟨Nat.le_of_ble_eq_true rfl, Nat.le_of_ble_eq_true rfl⟩ (Nat.le_of_ble_eq_true rfl) dMO_act_283 (fun r_24 s_23 => ?_)
    refine zz_callV2v h 0 rfl rfl (MO_write_c hV _ _ _) MO_write_k zm_MO_103 rfl rfl ⟨Nat.le_of_ble_eq_true rfl, Nat.le_of_ble_eq_true rfl⟩ (Nat.le_of_ble_eq_true rfl) dMO_act_286 (fun _ s_25 => ?_)
    refine zz_goto h 594 dMO_act_289 rfl ?_
    refine zz_iconst (v := 1) h dMO_act_594 zz_li_1 ?_
    exact zz_zret h dMO_act_595 (by decide +kernel)
  refine zz_ite (fun c_26 => ?_) (fun c_26 => ?_)
  · refine zz_table (off := 243) h 292 dMO_act_49 c_26 (by decide) (by decide) (by decide) rfl ?_
    refine zz_aload_n h dMO_act_292 rfl ?_
    refine zz_aload_n h dMO_act_293 rfl ?_
    refine zz_aload_n h dMO_act_294 rfl ?_
    refine zz_callV0i h 0 rfl rfl (MO_pop_c hV _) MO_pop_k zm_MO_138 rfl rfl ⟨Nat.le_of_ble_eq_true rfl, Nat.le_of_ble_eq_true rfl⟩ (Nat.le_of_ble_eq_true rfl) dMO_act_295 (fun r_28 s_27 => ?_)
    refine zz_iload h dMO_act_298 rfl ?_
    refine zz_iadd h dMO_act_300 ?_
    refine zz_callV1i h 0 rfl rfl (MO_read_c hV _ _) MO_read_k zm_MO_85 rfl rfl ⟨Nat.le_of_ble_eq_true rfl, Nat.le_of_ble_eq_true rfl⟩ (Nat.le_of_ble_eq_true rfl) dMO_act_301 (fun r_30 s_29 => ?_)
    refine zz_callV1v h 0 rfl rfl (MO_push_c hV _ _) MO_push_k zm_MO_145 rfl rfl ⟨Nat.le_of_ble_eq_true rfl, Nat.le_of_ble_eq_true rfl⟩ (Nat.le_of_ble_eq_true rfl) dMO_act_304 (fun _ s_31 => ?_)
    refine zz_goto h 594 dMO_act_307 rfl ?_
    refine zz_iconst (v := 1) h dMO_act_594 zz_li_1 ?_
    exact zz_zret h dMO_act_595 (by decide +kernel)
  refine zz_ite (fun c_32 => ?_) (fun c_32 => ?_)
  · refine zz_table (off := 261) h 310 dMO_act_49 c_32 (by decide) (by decide) (by decide) rfl ?_
    refine zz_aload_n h dMO_act_310 rfl ?_
    refine zz_callV0i h 0 rfl rfl (MO_pop_c hV _) MO_pop_k zm_MO_138 rfl rfl ⟨Nat.le_of_ble_eq_true rfl, Nat.le_of_ble_eq_true rfl⟩ (Nat.le_of_ble_eq_true rfl) dMO_act_311 (fun r_34 s_33 => ?_)
    refine zz_istore h dMO_act_314 (Nat.le_of_ble_eq_true rfl) ?_
    refine zz_aload_n h dMO_act_316 rfl ?_
    refine zz_iload h dMO_act_317 rfl ?_
    refine zz_iload h dMO_act_319 rfl ?_
    refine zz_iadd h dMO_act_321 ?_
    refine zz_aload_n h dMO_act_322 rfl ?_
    refine zz_callV0i h 0 rfl rfl (MO_pop_c hV _) MO_pop_k zm_MO_138 rfl rfl ⟨Nat.le_of_ble_eq_true rfl, Nat.le_of_ble_eq_true rfl⟩ (Nat.le_of_ble_eq_true rfl) dMO_act_323 (fun r_36 s_35 => ?_)
    refine zz_callV2v h 0 rfl rfl (MO_write_c hV _ _ _) MO_write_k zm_MO_103 rfl rfl ⟨Nat.le_of_ble_eq_true rfl, Nat.le_of_ble_eq_true rfl⟩ (Nat.le_of_ble_eq_true rfl) dMO_act_326 (fun _ s_37 => ?_)
    refine zz_goto h 594 dMO_act_329 rfl ?_
    refine zz_iconst (v := 1) h dMO_act_594 zz_li_1 ?_
    exact zz_zret h dMO_act_595 (by decide +kernel)
  refine zz_ite (fun c_38 => ?_) (fun c_38 => ?_)
  · refine zz_table (off := 539) h 588 dMO_act_49 c_38 (by decide) (by decide) (by decide) rfl ?_
    refine zz_aload_n h dMO_act_588 rfl ?_
    refine zz_iload_n h dMO_act_589 rfl ?_
    refine zz_callV1i h 0 rfl rfl (MO_more_c hV _ _) MO_more_k zm_MO_170 rfl rfl ⟨Nat.le_of_ble_eq_true rfl, Nat.le_of_ble_eq_true rfl⟩ (Nat.le_of_ble_eq_true rfl) dMO_act_590 (fun r_40 s_39 => ?_)
    exact zz_zretG h dMO_act_593
  refine zz_ite (fun c_41 => ?_) (fun c_41 => ?_)
  · refine zz_table (off := 539) h 588 dMO_act_49 c_41 (by decide) (by decide) (by decide) rfl ?_
    refine zz_aload_n h dMO_act_588 rfl ?_
    refine zz_iload_n h dMO_act_589 rfl ?_
    refine zz_callV1i h 0 rfl rfl (MO_more_c hV _ _) MO_more_k zm_MO_170 rfl rfl ⟨Nat.le_of_ble_eq_true rfl, Nat.le_of_ble_eq_true rfl⟩ (Nat.le_of_ble_eq_true rfl) dMO_act_590 (fun r_43 s_42 => ?_)
    exact zz_zretG h dMO_act_593
  refine zz_ite (fun c_44 => ?_) (fun c_44 => ?_)
  · refine zz_table (off := 539) h 588 dMO_act_49 c_44 (by decide) (by decide) (by decide) rfl ?_
    refine zz_aload_n h dMO_act_588 rfl ?_
    refine zz_iload_n h dMO_act_589 rfl ?_
    refine zz_callV1i h 0 rfl rfl (MO_more_c hV _ _) MO_more_k zm_MO_170 rfl rfl ⟨Nat.le_of_ble_eq_true rfl, Nat.le_of_ble_eq_true rfl⟩ (Nat.le_of_ble_eq_true rfl) dMO_act_590 (fun r_46 s_45 => ?_)
    exact zz_zretG h dMO_act_593
  refine zz_ite (fun c_47 => ?_) (fun c_47 => ?_)
  · refine zz_table (off := 539) h 588 dMO_act_49 c_47 (by decide) (by decide) (by decide) rfl ?_
    refine zz_aload_n h dMO_act_588 rfl ?_
    refine zz_iload_n h dMO_act_589 rfl ?_
    refine zz_callV1i h 0 rfl rfl (MO_more_c hV _ _) MO_more_k zm_MO_170 rfl rfl ⟨Nat.le_of_ble_eq_true rfl, Nat.le_of_ble_eq_true rfl⟩ (Nat.le_of_ble_eq_true rfl) dMO_act_590 (fun r_49 s_48 => ?_)
    exact zz_zretG h dMO_act_593
  refine zz_ite (fun c_50 => ?_) (fun c_50 => ?_)
  · refine zz_table (off := 539) h 588 dMO_act_49 c_50 (by decide) (by decide) (by decide) rfl ?_
    refine zz_aload_n h dMO_act_588 rfl ?_
    refine zz_iload_n h dMO_act_589 rfl ?_
    refine zz_callV1i h 0 rfl rfl (MO_more_c hV _ _) MO_more_k zm_MO_170 rfl rfl ⟨Nat.le_of_ble_eq_true rfl, Nat.le_of_ble_eq_true rfl⟩ (Nat.le_of_ble_eq_true rfl) dMO_act_590 (fun r_52 s_51 => ?_)
    exact zz_zretG h dMO_act_593
  refine zz_ite (fun c_53 => ?_) (fun c_53 => ?_)
  · refine zz_table (off := 539) h 588 dMO_act_49 c_53 (by decide) (by decide) (by decide) rfl ?_
    refine zz_aload_n h dMO_act_588 rfl ?_
    refine zz_iload_n h dMO_act_589 rfl ?_
    refine zz_callV1i h 0 rfl rfl (MO_more_c hV _ _) MO_more_k zm_MO_170 rfl rfl ⟨Nat.le_of_ble_eq_true rfl, Nat.le_of_ble_eq_true rfl⟩ (Nat.le_of_ble_eq_true rfl) dMO_act_590 (fun r_55 s_54 => ?_)
    exact zz_zretG h dMO_act_593
  refine zz_ite (fun c_56 => ?_) (fun c_56 => ?_)
  · refine zz_table (off := 539) h 588 dMO_act_49 c_56 (by decide) (by decide) (by decide) rfl ?_
    refine zz_aload_n h dMO_act_588 rfl ?_
    refine zz_iload_n h dMO_act_589 rfl ?_
    refine zz_callV1i h 0 rfl rfl (MO_more_c hV _ _) MO_more_k zm_MO_170 rfl rfl ⟨Nat.le_of_ble_eq_true rfl, Nat.le_of_ble_eq_true rfl⟩ (Nat.le_of_ble_eq_true rfl) dMO_act_590 (fun r_58 s_57 => ?_)
    exact zz_zretG h dMO_act_593
  refine zz_ite (fun c_59 => ?_) (fun c_59 => ?_)
  · refine zz_table (off := 539) h 588 dMO_act_49 c_59 (by decide) (by decide) (by decide) rfl ?_
    refine zz_aload_n h dMO_act_588 rfl ?_
    refine zz_iload_n h dMO_act_589 rfl ?_
    refine zz_callV1i h 0 rfl rfl (MO_more_c hV _ _) MO_more_k zm_MO_170 rfl rfl ⟨Nat.le_of_ble_eq_true rfl, Nat.le_of_ble_eq_true rfl⟩ (Nat.le_of_ble_eq_true rfl) dMO_act_590 (fun r_61 s_60 => ?_)
    exact zz_zretG h dMO_act_593
  refine zz_ite (fun c_62 => ?_) (fun c_62 => ?_)
  · refine zz_table (off := 283) h 332 dMO_act_49 c_62 (by decide) (by decide) (by decide) rfl ?_
    refine zz_aload_n h dMO_act_332 rfl ?_
    refine zz_callV0i h 0 rfl rfl (MO_pop_c hV _) MO_pop_k zm_MO_138 rfl rfl ⟨Nat.le_of_ble_eq_true rfl, Nat.le_of_ble_eq_true rfl⟩ (Nat.le_of_ble_eq_true rfl) dMO_act_333 (fun r_64 s_63 => ?_)
    refine zz_istore h dMO_act_336 (Nat.le_of_ble_eq_true rfl) ?_
    refine zz_aload_n h dMO_act_338 rfl ?_
    refine zz_iload h dMO_act_339 rfl ?_
    refine zz_callV1v h 0 rfl rfl (MO_push_c hV _ _) MO_push_k zm_MO_145 rfl rfl ⟨Nat.le_of_ble_eq_true rfl, Nat.le_of_ble_eq_true rfl⟩ (Nat.le_of_ble_eq_true rfl) dMO_act_341 (fun _ s_65 => ?_)
    refine zz_aload_n h dMO_act_344 rfl ?_
    refine zz_iload h dMO_act_345 rfl ?_
    refine zz_callV1v h 0 rfl rfl (MO_push_c hV _ _) MO_push_k zm_MO_145 rfl rfl ⟨Nat.le_of_ble_eq_true rfl, Nat.le_of_ble_eq_true rfl⟩ (Nat.le_of_ble_eq_true rfl) dMO_act_347 (fun _ s_66 => ?_)
    refine zz_goto h 594 dMO_act_350 rfl ?_
    refine zz_iconst (v := 1) h dMO_act_594 zz_li_1 ?_
    exact zz_zret h dMO_act_595 (by decide +kernel)
  refine zz_ite (fun c_67 => ?_) (fun c_67 => ?_)
  · refine zz_table (off := 304) h 353 dMO_act_49 c_67 (by decide) (by decide) (by decide) rfl ?_
    refine zz_aload_n h dMO_act_353 rfl ?_
    refine zz_callV0i h 0 rfl rfl (MO_pop_c hV _) MO_pop_k zm_MO_138 rfl rfl ⟨Nat.le_of_ble_eq_true rfl, Nat.le_of_ble_eq_true rfl⟩ (Nat.le_of_ble_eq_true rfl) dMO_act_354 (fun r_69 s_68 => ?_)
    refine zz_istore h dMO_act_357 (Nat.le_of_ble_eq_true rfl) ?_
    refine zz_goto h 594 dMO_act_359 rfl ?_
    refine zz_iconst (v := 1) h dMO_act_594 zz_li_1 ?_
    exact zz_zret h dMO_act_595 (by decide +kernel)
  refine zz_ite (fun c_70 => ?_) (fun c_70 => ?_)
  · refine zz_table (off := 539) h 588 dMO_act_49 c_70 (by decide) (by decide) (by decide) rfl ?_
    refine zz_aload_n h dMO_act_588 rfl ?_
    refine zz_iload_n h dMO_act_589 rfl ?_
    refine zz_callV1i h 0 rfl rfl (MO_more_c hV _ _) MO_more_k zm_MO_170 rfl rfl ⟨Nat.le_of_ble_eq_true rfl, Nat.le_of_ble_eq_true rfl⟩ (Nat.le_of_ble_eq_true rfl) dMO_act_590 (fun r_72 s_71 => ?_)
    exact zz_zretG h dMO_act_593
  refine zz_ite (fun c_73 => ?_) (fun c_73 => ?_)
  · refine zz_table (off := 313) h 362 dMO_act_49 c_73 (by decide) (by decide) (by decide) rfl ?_
    refine zz_aload_n h dMO_act_362 rfl ?_
    refine zz_iload_n h dMO_act_363 rfl ?_
    refine zz_iload h dMO_act_364 rfl ?_
    refine zz_i2b h dMO_act_366 ?_
    refine zz_iadd h dMO_act_367 ?_
    refine zz_callS1i h (MO_low_c hV _ _) MO_low_k zm_MO_82 rfl rfl ⟨Nat.le_of_ble_eq_true rfl, Nat.le_of_ble_eq_true rfl⟩ (Nat.le_of_ble_eq_true rfl) dMO_act_368 (fun r_75 s_74 => ?_)
    refine zm_p_MO_next h zi_MO zf_MO_91 dMO_act_371 (fun s_76 => ?_)
    refine zz_goto h 594 dMO_act_374 rfl ?_
    refine zz_iconst (v := 1) h dMO_act_594 zz_li_1 ?_
    exact zz_zret h dMO_act_595 (by decide +kernel)
  refine zz_ite (fun c_77 => ?_) (fun c_77 => ?_)
  · refine zz_table (off := 328) h 377 dMO_act_49 c_77 (by decide) (by decide) (by decide) rfl ?_
    refine zz_aload_n h dMO_act_377 rfl ?_
    refine zz_aload_n h dMO_act_378 rfl ?_
    refine zz_callV0i h 0 rfl rfl (MO_pop_c hV _) MO_pop_k zm_MO_138 rfl rfl ⟨Nat.le_of_ble_eq_true rfl, Nat.le_of_ble_eq_true rfl⟩ (Nat.le_of_ble_eq_true rfl) dMO_act_379 (fun r_79 s_78 => ?_)
    refine zz_if_ne h 403 dMO_act_382 rfl ?_ ?_
    · refine zz_aload_n h dMO_act_385 rfl ?_
      refine zm_g_MO_fault h zi_MO zf_MO_68 dMO_act_386 ?_
      refine zz_if_ne h 403 dMO_act_389 rfl ?_ ?_
      · refine zz_iload_n h dMO_act_392 rfl ?_
        refine zz_iload h dMO_act_393 rfl ?_
        refine zz_i2b h dMO_act_395 ?_
        refine zz_iadd h dMO_act_396 ?_
        refine zz_callS1i h (MO_low_c hV _ _) MO_low_k zm_MO_82 rfl rfl ⟨Nat.le_of_ble_eq_true rfl, Nat.le_of_ble_eq_true rfl⟩ (Nat.le_of_ble_eq_true rfl) dMO_act_397 (fun r_81 s_80 => ?_)
        refine zz_goto h 407 dMO_act_400 rfl ?_
        exact zz_sub (MO_act_407_w hV h _ _) rfl
      · exact zz_sub (MO_act_403_w hV h  _) rfl
    · exact zz_sub (MO_act_403_w hV h  _) rfl
  refine zz_ite (fun c_82 => ?_) (fun c_82 => ?_)
  · refine zz_table (off := 364) h 413 dMO_act_49 c_82 (by decide) (by decide) (by decide) rfl ?_
    refine zz_aload_n h dMO_act_413 rfl ?_
    refine zz_callV0i h 0 rfl rfl (MO_pop_c hV _) MO_pop_k zm_MO_138 rfl rfl ⟨Nat.le_of_ble_eq_true rfl, Nat.le_of_ble_eq_true rfl⟩ (Nat.le_of_ble_eq_true rfl) dMO_act_414 (fun r_84 s_83 => ?_)
    refine zz_callS1i h (MO_signed_c hV _ _) MO_signed_k zm_MO_142 rfl rfl ⟨Nat.le_of_ble_eq_true rfl, Nat.le_of_ble_eq_true rfl⟩ (Nat.le_of_ble_eq_true rfl) dMO_act_417 (fun r_86 s_85 => ?_)
    refine zz_istore h dMO_act_420 (Nat.le_of_ble_eq_true rfl) ?_
    refine zz_aload_n h dMO_act_422 rfl ?_
    refine zz_aload_n h dMO_act_423 rfl ?_
    refine zz_callV0i h 0 rfl rfl (MO_pop_c hV _) MO_pop_k zm_MO_138 rfl rfl ⟨Nat.le_of_ble_eq_true rfl, Nat.le_of_ble_eq_true rfl⟩ (Nat.le_of_ble_eq_true rfl) dMO_act_424 (fun r_88 s_87 => ?_)
    refine zz_callS1i h (MO_signed_c hV _ _) MO_signed_k zm_MO_142 rfl rfl ⟨Nat.le_of_ble_eq_true rfl, Nat.le_of_ble_eq_true rfl⟩ (Nat.le_of_ble_eq_true rfl) dMO_act_427 (fun r_90 s_89 => ?_)
    refine zz_iload h dMO_act_430 rfl ?_
    refine zz_icmp_ge h 453 dMO_act_432 rfl ?_ ?_
    · exact zz_sub (MO_act_453_w hV h  _) rfl
    · refine zz_aload_n h dMO_act_435 rfl ?_
      refine zm_g_MO_fault h zi_MO zf_MO_68 dMO_act_436 ?_
      refine zz_if_ne h 453 dMO_act_439 rfl ?_ ?_
      · refine zz_iload_n h dMO_act_442 rfl ?_
        refine zz_iload h dMO_act_443 rfl ?_
        refine zz_i2b h dMO_act_445 ?_
        refine zz_iadd h dMO_act_446 ?_
        refine zz_callS1i h (MO_low_c hV _ _) MO_low_k zm_MO_82 rfl rfl ⟨Nat.le_of_ble_eq_true rfl, Nat.le_of_ble_eq_true rfl⟩ (Nat.le_of_ble_eq_true rfl) dMO_act_447 (fun r_92 s_91 => ?_)
        refine zz_goto h 457 dMO_act_450 rfl ?_
        exact zz_sub (MO_act_457_w hV h _ _) rfl
      · exact zz_sub (MO_act_453_w hV h  _) rfl
  refine zz_ite (fun c_93 => ?_) (fun c_93 => ?_)
  · refine zz_table (off := 414) h 463 dMO_act_49 c_93 (by decide) (by decide) (by decide) rfl ?_
    refine zz_aload_n h dMO_act_463 rfl ?_
    refine zz_aload_n h dMO_act_464 rfl ?_
    refine zz_callV0i h 0 rfl rfl (MO_pop_c hV _) MO_pop_k zm_MO_138 rfl rfl ⟨Nat.le_of_ble_eq_true rfl, Nat.le_of_ble_eq_true rfl⟩ (Nat.le_of_ble_eq_true rfl) dMO_act_465 (fun r_95 s_94 => ?_)
    refine zz_iload h dMO_act_468 rfl ?_
    refine zz_callS2i h (MO_field_c hV _ _ _) MO_field_k zm_MO_154 rfl rfl ⟨Nat.le_of_ble_eq_true rfl, Nat.le_of_ble_eq_true rfl⟩ (Nat.le_of_ble_eq_true rfl) dMO_act_470 (fun r_97 s_96 => ?_)
    refine zz_callV1v h 0 rfl rfl (MO_push_c hV _ _) MO_push_k zm_MO_145 rfl rfl ⟨Nat.le_of_ble_eq_true rfl, Nat.le_of_ble_eq_true rfl⟩ (Nat.le_of_ble_eq_true rfl) dMO_act_473 (fun _ s_98 => ?_)
    refine zz_goto h 594 dMO_act_476 rfl ?_
    refine zz_iconst (v := 1) h dMO_act_594 zz_li_1 ?_
    exact zz_zret h dMO_act_595 (by decide +kernel)
  refine zz_ite (fun c_99 => ?_) (fun c_99 => ?_)
  · refine zz_table (off := 430) h 479 dMO_act_49 c_99 (by decide) (by decide) (by decide) rfl ?_
    refine zz_aload_n h dMO_act_479 rfl ?_
    refine zz_callV0i h 0 rfl rfl (MO_pop_c hV _) MO_pop_k zm_MO_138 rfl rfl ⟨Nat.le_of_ble_eq_true rfl, Nat.le_of_ble_eq_true rfl⟩ (Nat.le_of_ble_eq_true rfl) dMO_act_480 (fun r_101 s_100 => ?_)
    refine zz_istore h dMO_act_483 (Nat.le_of_ble_eq_true rfl) ?_
    refine zz_aload_n h dMO_act_485 rfl ?_
    refine zz_aload_n h dMO_act_486 rfl ?_
    refine zz_callV0i h 0 rfl rfl (MO_pop_c hV _) MO_pop_k zm_MO_138 rfl rfl ⟨Nat.le_of_ble_eq_true rfl, Nat.le_of_ble_eq_true rfl⟩ (Nat.le_of_ble_eq_true rfl) dMO_act_487 (fun r_103 s_102 => ?_)
    refine zz_iload h dMO_act_490 rfl ?_
    refine zz_iload h dMO_act_492 rfl ?_
    refine zz_callS3i h (MO_placed_c hV _ _ _ _) MO_placed_k zm_MO_157 rfl rfl ⟨Nat.le_of_ble_eq_true rfl, Nat.le_of_ble_eq_true rfl⟩ (Nat.le_of_ble_eq_true rfl) dMO_act_494 (fun r_105 s_104 => ?_)
    refine zz_callV1v h 0 rfl rfl (MO_push_c hV _ _) MO_push_k zm_MO_145 rfl rfl ⟨Nat.le_of_ble_eq_true rfl, Nat.le_of_ble_eq_true rfl⟩ (Nat.le_of_ble_eq_true rfl) dMO_act_497 (fun _ s_106 => ?_)
    refine zz_goto h 594 dMO_act_500 rfl ?_
    refine zz_iconst (v := 1) h dMO_act_594 zz_li_1 ?_
    exact zz_zret h dMO_act_595 (by decide +kernel)
  refine zz_ite (fun c_107 => ?_) (fun c_107 => ?_)
  · refine zz_table (off := 454) h 503 dMO_act_49 c_107 (by decide) (by decide) (by decide) rfl ?_
    refine zz_aload_n h dMO_act_503 rfl ?_
    refine zz_bipush (v := 32) h dMO_act_504 zz_lb_32 ?_
    refine zz_aload_n h dMO_act_506 rfl ?_
    refine zm_g_MO_globalNumber h zi_MO zf_MO_161 dMO_act_507 ?_
    refine zz_imul h dMO_act_510 ?_
    refine zz_iconst (v := 2) h dMO_act_511 zz_li_2 ?_
    refine zz_iload h dMO_act_512 rfl ?_
    refine zz_bipush (v := 15) h dMO_act_514 zz_lb_15 ?_
    refine zz_iand h dMO_act_516 ?_
    refine zz_imul h dMO_act_517 ?_
    refine zz_iadd h dMO_act_518 ?_
    refine zz_iconst (v := 1) h dMO_act_519 zz_li_1 ?_
    refine zz_iadd h dMO_act_520 ?_
    refine zz_callV1v h 0 rfl rfl (MO_call_c hV _ _) MO_call_k zm_MO_164 rfl rfl ⟨Nat.le_of_ble_eq_true rfl, Nat.le_of_ble_eq_true rfl⟩ (Nat.le_of_ble_eq_true rfl) dMO_act_521 (fun _ s_108 => ?_)
    refine zz_iconst (v := 0) h dMO_act_524 zz_li_0 ?_
    exact zz_zret h dMO_act_525 (by decide +kernel)
  refine zz_ite (fun c_109 => ?_) (fun c_109 => ?_)
  · refine zz_table (off := 477) h 526 dMO_act_49 c_109 (by decide) (by decide) (by decide) rfl ?_
    refine zz_aload_n h dMO_act_526 rfl ?_
    refine zz_aload_n h dMO_act_527 rfl ?_
    refine zz_aload_n h dMO_act_528 rfl ?_
    refine zm_g_MO_globals h zi_MO zf_MO_151 dMO_act_529 ?_
    refine zz_iconst (v := 1) h dMO_act_532 zz_li_1 ?_
    refine zz_isub h dMO_act_533 ?_
    refine zz_iload h dMO_act_534 rfl ?_
    refine zz_isub h dMO_act_536 ?_
    refine zz_callV1i h 0 rfl rfl (MO_read_c hV _ _) MO_read_k zm_MO_85 rfl rfl ⟨Nat.le_of_ble_eq_true rfl, Nat.le_of_ble_eq_true rfl⟩ (Nat.le_of_ble_eq_true rfl) dMO_act_537 (fun r_111 s_110 => ?_)
    refine zz_callV1v h 0 rfl rfl (MO_call_c hV _ _) MO_call_k zm_MO_164 rfl rfl ⟨Nat.le_of_ble_eq_true rfl, Nat.le_of_ble_eq_true rfl⟩ (Nat.le_of_ble_eq_true rfl) dMO_act_540 (fun _ s_112 => ?_)
    refine zz_iconst (v := 0) h dMO_act_543 zz_li_0 ?_
    exact zz_zret h dMO_act_544 (by decide +kernel)
  refine zz_ite (fun c_113 => ?_) (fun c_113 => ?_)
  · refine zz_table (off := 496) h 545 dMO_act_49 c_113 (by decide) (by decide) (by decide) rfl ?_
    refine zz_aload_n h dMO_act_545 rfl ?_
    refine zz_callV0v h 0 rfl rfl (MO_giveBack_c hV _) MO_giveBack_k zm_MO_167 rfl rfl ⟨Nat.le_of_ble_eq_true rfl, Nat.le_of_ble_eq_true rfl⟩ (Nat.le_of_ble_eq_true rfl) dMO_act_546 (fun _ s_114 => ?_)
    refine zz_iconst (v := 0) h dMO_act_549 zz_li_0 ?_
    exact zz_zret h dMO_act_550 (by decide +kernel)
  refine zz_ite (fun c_115 => ?_) (fun c_115 => ?_)
  · refine zz_table (off := 502) h 551 dMO_act_49 c_115 (by decide) (by decide) (by decide) rfl ?_
    refine zz_aload_n h dMO_act_551 rfl ?_
    refine zz_aload_n h dMO_act_552 rfl ?_
    refine zz_callV0i h 0 rfl rfl (MO_pop_c hV _) MO_pop_k zm_MO_138 rfl rfl ⟨Nat.le_of_ble_eq_true rfl, Nat.le_of_ble_eq_true rfl⟩ (Nat.le_of_ble_eq_true rfl) dMO_act_553 (fun r_117 s_116 => ?_)
    refine zz_callV1v h 0 rfl rfl (MO_call_c hV _ _) MO_call_k zm_MO_164 rfl rfl ⟨Nat.le_of_ble_eq_true rfl, Nat.le_of_ble_eq_true rfl⟩ (Nat.le_of_ble_eq_true rfl) dMO_act_556 (fun _ s_118 => ?_)
    refine zz_iconst (v := 0) h dMO_act_559 zz_li_0 ?_
    exact zz_zret h dMO_act_560 (by decide +kernel)
  refine zz_ite (fun c_119 => ?_) (fun c_119 => ?_)
  · refine zz_table (off := 512) h 561 dMO_act_49 c_119 (by decide) (by decide) (by decide) rfl ?_
    refine zz_aload_n h dMO_act_561 rfl ?_
    refine zz_aload_n h dMO_act_562 rfl ?_
    refine zz_iload h dMO_act_563 rfl ?_
    refine zz_bipush (v := 7) h dMO_act_565 zz_lb_7 ?_
    refine zz_iand h dMO_act_567 ?_
    refine zz_callV1i h 0 rfl rfl (MO_take_c hV _ _) MO_take_k zm_MO_110 rfl rfl ⟨Nat.le_of_ble_eq_true rfl, Nat.le_of_ble_eq_true rfl⟩ (Nat.le_of_ble_eq_true rfl) dMO_act_568 (fun r_121 s_120 => ?_)
    refine zz_callV1v h 0 rfl rfl (MO_push_c hV _ _) MO_push_k zm_MO_145 rfl rfl ⟨Nat.le_of_ble_eq_true rfl, Nat.le_of_ble_eq_true rfl⟩ (Nat.le_of_ble_eq_true rfl) dMO_act_571 (fun _ s_122 => ?_)
    refine zz_goto h 594 dMO_act_574 rfl ?_
    refine zz_iconst (v := 1) h dMO_act_594 zz_li_1 ?_
    exact zz_zret h dMO_act_595 (by decide +kernel)
  refine zz_ite (fun c_123 => ?_) (fun c_123 => ?_)
  · refine zz_table (off := 528) h 577 dMO_act_49 c_123 (by decide) (by decide) (by decide) rfl ?_
    refine zz_aload_n h dMO_act_577 rfl ?_
    refine zz_aload_n h dMO_act_578 rfl ?_
    refine zz_callV0i h 0 rfl rfl (MO_pop_c hV _) MO_pop_k zm_MO_138 rfl rfl ⟨Nat.le_of_ble_eq_true rfl, Nat.le_of_ble_eq_true rfl⟩ (Nat.le_of_ble_eq_true rfl) dMO_act_579 (fun r_125 s_124 => ?_)
    refine zz_callV1v h 0 rfl rfl (MO_give_c hV _ _) MO_give_k zm_MO_119 rfl rfl ⟨Nat.le_of_ble_eq_true rfl, Nat.le_of_ble_eq_true rfl⟩ (Nat.le_of_ble_eq_true rfl) dMO_act_582 (fun _ s_126 => ?_)
    refine zz_goto h 594 dMO_act_585 rfl ?_
    refine zz_iconst (v := 1) h dMO_act_594 zz_li_1 ?_
    exact zz_zret h dMO_act_595 (by decide +kernel)
  refine zz_tableD h 588 dMO_act_49 (by have z0 := lv_neT (a := 0) c_3 (by decide); have z1 := lv_neT (a := 1) c_4 (by decide); have z2 := lv_neT (a := 2) c_6 (by decide); have z3 := lv_neT (a := 3) c_10 (by decide); have z4 := lv_neT (a := 4) c_14 (by decide); have z5 := lv_neT (a := 5) c_18 (by decide); have z6 := lv_neT (a := 6) c_22 (by decide); have z7 := lv_neT (a := 7) c_26 (by decide); have z8 := lv_neT (a := 8) c_32 (by decide); have z9 := lv_neT (a := 9) c_38 (by decide); have z10 := lv_neT (a := 10) c_41 (by decide); have z11 := lv_neT (a := 11) c_44 (by decide); have z12 := lv_neT (a := 12) c_47 (by decide); have z13 := lv_neT (a := 13) c_50 (by decide); have z14 := lv_neT (a := 14) c_53 (by decide); have z15 := lv_neT (a := 15) c_56 (by decide); have z16 := lv_neT (a := 16) c_59 (by decide); have z17 := lv_neT (a := 17) c_62 (by decide); have z18 := lv_neT (a := 18) c_67 (by decide); have z19 := lv_neT (a := 19) c_70 (by decide); have z20 := lv_neT (a := 20) c_73 (by decide); have z21 := lv_neT (a := 21) c_77 (by decide); have z22 := lv_neT (a := 22) c_82 (by decide); have z23 := lv_neT (a := 23) c_93 (by decide); have z24 := lv_neT (a := 24) c_99 (by decide); have z25 := lv_neT (a := 25) c_107 (by decide); have z26 := lv_neT (a := 26) c_109 (by decide); have z27 := lv_neT (a := 27) c_113 (by decide); have z28 := lv_neT (a := 28) c_115 (by decide); have z29 := lv_neT (a := 29) c_119 (by decide); have z30 := lv_neT (a := 30) c_123 (by decide); omega) rfl ?_
  refine zz_aload_n h dMO_act_588 rfl ?_
  refine zz_iload_n h dMO_act_589 rfl ?_
  refine zz_callV1i h 0 rfl rfl (MO_more_c hV _ _) MO_more_k zm_MO_170 rfl rfl ⟨Nat.le_of_ble_eq_true rfl, Nat.le_of_ble_eq_true rfl⟩ (Nat.le_of_ble_eq_true rfl) dMO_act_590 (fun r_128 s_127 => ?_)
  exact zz_zretG h dMO_act_593
set_option maxRecDepth 100000 in
set_option maxHeartbeats 4000000 in
theorem MO_act_38_w {l : Launch} {D : va_G} {ad : Nat → Nat} {cA : Nat → ClassId} {tb : Nat} {E : zz_E} (hV : zz_ok (zm_V l D ad cA tb)) (h : zz_X (zm_V l D ad cA tb) E "FrameProcessorModel" prog_10_method_32_code 7 zt_T 7 169 (some .boolean)) (x1 : Int32) (x2 : Int32) (x3 : Int32) (st : zz_S) : zz_Z (zm_V l D ad cA tb) E 7 0 0 (zz_q (zm_V l D ad cA tb) E zz_ji) (MO_act_38 x1 x2 x3 st) 38 [(0, .ref (ad 0)), (1, .int x1), (2, .int x2), (3, .int x3)] [] st := by
  unfold MO_act_38
  refine zz_aload_n h dMO_act_38 rfl ?_
  refine zz_callV0i h 0 rfl rfl (MO_nextByte_c hV _) MO_nextByte_k zm_MO_148 rfl rfl ⟨Nat.le_of_ble_eq_true rfl, Nat.le_of_ble_eq_true rfl⟩ (Nat.le_of_ble_eq_true rfl) dMO_act_39 (fun r_130 s_129 => ?_)
  refine zz_goto h 46 dMO_act_42 rfl ?_
  exact zz_sub (MO_act_46_w hV h _ _ _ _ _) rfl
set_option maxRecDepth 100000 in
set_option maxHeartbeats 4000000 in
theorem MO_act_32_w {l : Launch} {D : va_G} {ad : Nat → Nat} {cA : Nat → ClassId} {tb : Nat} {E : zz_E} (hV : zz_ok (zm_V l D ad cA tb)) (h : zz_X (zm_V l D ad cA tb) E "FrameProcessorModel" prog_10_method_32_code 7 zt_T 7 169 (some .boolean)) (x1 : Int32) (x2 : Int32) (x3 : Int32) (st : zz_S) : zz_Z (zm_V l D ad cA tb) E 7 0 0 (zz_q (zm_V l D ad cA tb) E zz_ji) (MO_act_32 x1 x2 x3 st) 32 [(0, .ref (ad 0)), (1, .int x1), (2, .int x2), (3, .int x3)] [] st := by
  unfold MO_act_32
  refine zz_iload_n h dMO_act_32 rfl ?_
  refine zz_bipush (v := 29) h dMO_act_33 zz_lb_29 ?_
  refine zz_icmp_ne h 45 dMO_act_35 rfl ?_ ?_
  · exact zz_sub (MO_act_38_w hV h _ _ _ _) rfl
  · refine zz_iconst (v := 0) h dMO_act_45 zz_li_0 ?_
    exact zz_sub (MO_act_46_w hV h _ _ _ _ _) rfl
set_option maxRecDepth 100000 in
set_option maxHeartbeats 4000000 in
theorem MO_act_20_w {l : Launch} {D : va_G} {ad : Nat → Nat} {cA : Nat → ClassId} {tb : Nat} {E : zz_E} (hV : zz_ok (zm_V l D ad cA tb)) (h : zz_X (zm_V l D ad cA tb) E "FrameProcessorModel" prog_10_method_32_code 7 zt_T 7 169 (some .boolean)) (x1 : Int32) (x2 : Int32) (x3 : Int32) (st : zz_S) : zz_Z (zm_V l D ad cA tb) E 7 0 0 (zz_q (zm_V l D ad cA tb) E zz_ji) (MO_act_20 x1 x2 x3 st) 20 [(0, .ref (ad 0)), (1, .int x1), (2, .int x2), (3, .int x3)] [] st := by
  unfold MO_act_20
  refine zz_iload_n h dMO_act_20 rfl ?_
  refine zz_bipush (v := 19) h dMO_act_21 zz_lb_19 ?_
  refine zz_icmp_le h 32 dMO_act_23 rfl ?_ ?_
  · exact zz_sub (MO_act_32_w hV h _ _ _ _) rfl
  · refine zz_iload_n h dMO_act_26 rfl ?_
    refine zz_bipush (v := 27) h dMO_act_27 zz_lb_27 ?_
    refine zz_icmp_lt h 38 dMO_act_29 rfl ?_ ?_
    · exact zz_sub (MO_act_38_w hV h _ _ _ _) rfl
    · exact zz_sub (MO_act_32_w hV h _ _ _ _) rfl
set_option maxRecDepth 100000 in
set_option maxHeartbeats 4000000 in
theorem MO_act_w {l : Launch} {D : va_G} {ad : Nat → Nat} {cA : Nat → ClassId} {tb : Nat} {E : zz_E} (hV : zz_ok (zm_V l D ad cA tb)) (h : zz_X (zm_V l D ad cA tb) E "FrameProcessorModel" prog_10_method_32_code 7 zt_T 7 169 (some .boolean)) (x1 : Int32) (x2 : Int32) (st : zz_S) : zz_Z (zm_V l D ad cA tb) E 7 0 0 (zz_q (zm_V l D ad cA tb) E zz_ji) (MO_act_f x1 x2 st) 0 [(0, .ref (ad 0)), (1, .int x1), (2, .int x2)] [] st := by
  unfold MO_act_f
  refine zz_aload_n h dMO_act_0 rfl ?_
  refine zm_g_MO_frame h zi_MO zf_MO_29 dMO_act_1 ?_
  refine zz_aload_n h dMO_act_4 rfl ?_
  refine zm_g_MO_me h zi_MO zf_MO_113 dMO_act_5 ?_
  refine zz_topi (fun v_131 => ?_)
  refine zm_ld_7 h dMO_act_8 ?_
  refine zz_topi (fun v_132 => ?_)
  refine zz_istore_n h dMO_act_9 (Nat.le_of_ble_eq_true rfl) ?_
  refine zz_iload_n h dMO_act_10 rfl ?_
  refine zz_if_le h 20 dMO_act_11 rfl ?_ ?_
  · exact zz_sub (MO_act_20_w hV h _ _ _ _) rfl
  · refine zz_iload_n h dMO_act_14 rfl ?_
    refine zz_bipush (v := 9) h dMO_act_15 zz_lb_9 ?_
    refine zz_icmp_lt h 38 dMO_act_17 rfl ?_ ?_
    · exact zz_sub (MO_act_38_w hV h _ _ _ _) rfl
    · exact zz_sub (MO_act_20_w hV h _ _ _ _) rfl
theorem MO_act_c {l : Launch} {D : va_G} {ad : Nat → Nat} {cA : Nat → ClassId} {tb : Nat} (hV : zz_ok (zm_V l D ad cA tb)) (x1 : Int32) (x2 : Int32) (st : zz_S) : zz_C (zm_V l D ad cA tb) yMO_act (Cond.code yMO_act prog_10_method_32_code 7 (some .boolean) :: zt_T) { frames := 7, cells := 0, slots := 0, locals := 169 } zz_ji [.ref (ad 0), .int x1, .int x2] st (MO_act_f x1 x2 st) := zz_met hV (by decide +kernel) rfl (Nat.le_of_ble_eq_true rfl) rfl (fun E h => MO_act_w hV h x1 x2 st)
