def MO_begun_25 (x2 : Int32) (st : zz_S) : Option (Int32 × zz_S) := (if (zz_sg st 2) ≤ 0 then (zz_bd (MO_called_f x2 (0 : Int32) st) fun r_2 s_1 => (some (r_2, s_1))) else (some ((0 : Int32), st)))
def MO_begun_f (x1 : Int32) (st : zz_S) : Option (Int32 × zz_S) := (zz_bd (MO_meant_f x1 st) fun r_4 s_3 => (if (zz_sg s_3 2) = 0 then (if (zz_rem r_4 (4 : Int32)) = 0 then (zz_bd (MO_wrong_f (8 : Int32) s_3) fun _ s_5 => (MO_begun_25 r_4 s_5)) else (MO_begun_25 r_4 s_3)) else (MO_begun_25 r_4 s_3)))
set_option maxRecDepth 100000 in
set_option maxHeartbeats 4000000 in
theorem MO_begun_25_w {l : Launch} {D : va_G} {ad : Nat → Nat} {cA : Nat → ClassId} {tb : Nat} {E : zz_E} (hV : zz_ok (zm_V l D ad cA tb)) (h : zz_X (zm_V l D ad cA tb) E "FrameProcessorModel" prog_10_method_26_code 3 zt_T 4 97 (some .int)) (x2 : Int32) (st : zz_S) : zz_Z (zm_V l D ad cA tb) E 3 0 0 (zz_q (zm_V l D ad cA tb) E zz_ji) (MO_begun_25 x2 st) 25 [(0, .ref (ad 0)), (2, .int x2)] [] st := by
  unfold MO_begun_25
  refine zz_aload_n h dMO_begun_25 rfl ?_
  refine zm_g_MO_fault h zi_MO zf_MO_68 dMO_begun_26 ?_
  refine zz_if_le h 36 dMO_begun_29 rfl ?_ ?_
  · refine zz_aload_n h dMO_begun_36 rfl ?_
    refine zz_iload_n h dMO_begun_37 rfl ?_
    refine zz_iconst (v := 0) h dMO_begun_38 zz_li_0 ?_
    refine zz_callV2i h 0 rfl rfl (MO_called_c hV _ _ _) MO_called_k zm_MO_116 rfl rfl ⟨Nat.le_of_ble_eq_true rfl, Nat.le_of_ble_eq_true rfl⟩ (Nat.le_of_ble_eq_true rfl) dMO_begun_39 (fun r_2 s_1 => ?_)
    exact zz_iret h dMO_begun_42
  · refine zz_iconst (v := 0) h dMO_begun_32 zz_li_0 ?_
    refine zz_goto h 42 dMO_begun_33 rfl ?_
    exact zz_iret h dMO_begun_42
set_option maxRecDepth 100000 in
set_option maxHeartbeats 4000000 in
theorem MO_begun_w {l : Launch} {D : va_G} {ad : Nat → Nat} {cA : Nat → ClassId} {tb : Nat} {E : zz_E} (hV : zz_ok (zm_V l D ad cA tb)) (h : zz_X (zm_V l D ad cA tb) E "FrameProcessorModel" prog_10_method_26_code 3 zt_T 4 97 (some .int)) (x1 : Int32) (st : zz_S) : zz_Z (zm_V l D ad cA tb) E 3 0 0 (zz_q (zm_V l D ad cA tb) E zz_ji) (MO_begun_f x1 st) 0 [(0, .ref (ad 0)), (1, .int x1)] [] st := by
  unfold MO_begun_f
  refine zz_aload_n h dMO_begun_0 rfl ?_
  refine zz_iload_n h dMO_begun_1 rfl ?_
  refine zz_callV1i h 0 rfl rfl (MO_meant_c hV _ _) MO_meant_k zm_MO_107 rfl rfl ⟨Nat.le_of_ble_eq_true rfl, Nat.le_of_ble_eq_true rfl⟩ (Nat.le_of_ble_eq_true rfl) dMO_begun_2 (fun r_4 s_3 => ?_)
  refine zz_istore_n h dMO_begun_5 (Nat.le_of_ble_eq_true rfl) ?_
  refine zz_aload_n h dMO_begun_6 rfl ?_
  refine zm_g_MO_fault h zi_MO zf_MO_68 dMO_begun_7 ?_
  refine zz_if_ne h 25 dMO_begun_10 rfl ?_ ?_
  · refine zz_iload_n h dMO_begun_13 rfl ?_
    refine zz_iconst (v := 4) h dMO_begun_14 zz_li_4 ?_
    refine zz_irem h dMO_begun_15 (by decide) ?_
    refine zz_if_ne h 25 dMO_begun_16 rfl ?_ ?_
    · refine zz_aload_n h dMO_begun_19 rfl ?_
      refine zz_bipush (v := 8) h dMO_begun_20 zz_lb_8 ?_
      refine zz_callV1v h 0 rfl rfl (MO_wrong_c hV _ _) MO_wrong_k zm_MO_75 rfl rfl ⟨Nat.le_of_ble_eq_true rfl, Nat.le_of_ble_eq_true rfl⟩ (Nat.le_of_ble_eq_true rfl) dMO_begun_22 (fun _ s_5 => ?_)
      exact zz_sub (MO_begun_25_w hV h _ _) rfl
    · exact zz_sub (MO_begun_25_w hV h _ _) rfl
  · exact zz_sub (MO_begun_25_w hV h _ _) rfl
theorem MO_begun_c {l : Launch} {D : va_G} {ad : Nat → Nat} {cA : Nat → ClassId} {tb : Nat} (hV : zz_ok (zm_V l D ad cA tb)) (x1 : Int32) (st : zz_S) : zz_C (zm_V l D ad cA tb) yMO_begun (Cond.code yMO_begun prog_10_method_26_code 3 (some .int) :: zt_T) { frames := 4, cells := 0, slots := 0, locals := 97 } zz_ji [.ref (ad 0), .int x1] st (MO_begun_f x1 st) := zz_met hV (by decide +kernel) rfl (Nat.le_of_ble_eq_true rfl) rfl (fun E h => MO_begun_w hV h x1 st)
def MO_fork_48 (x1 : Int32) (x3 : Int32) (y0 : Int32) (st : zz_S) : Option (Unit × zz_S) := (zz_nm (zz_sp st 11 x1) fun s_1 => (zz_nm (zz_sp s_1 12 y0) fun s_2 => (zz_nm (zz_sp s_2 13 x3) fun s_3 => (some ((), s_3)))))
def MO_fork_32 (x1 : Int32) (x2 : Int32) (x3 : Int32) (st : zz_S) : Option (Unit × zz_S) := (if (zz_sg st 2) ≤ 0 then (zz_bd (MO_begun_f x2 st) fun r_5 s_4 => (MO_fork_48 x1 x3 r_5 s_4)) else (MO_fork_48 x1 x3 (0 : Int32) st))
def MO_fork_f (st : zz_S) : Option (Unit × zz_S) := (zz_bd (MO_leastFree_f st) fun r_7 s_6 => (zz_bd (MO_pop_f s_6) fun r_9 s_8 => (zz_bd (MO_pop_f s_8) fun r_11 s_10 => (if (zz_sg s_10 2) = 0 then (if 0 ≤ r_7 then (MO_fork_32 r_7 r_9 r_11 s_10) else (zz_bd (MO_wrong_f (8 : Int32) s_10) fun _ s_12 => (MO_fork_32 r_7 r_9 r_11 s_12))) else (MO_fork_32 r_7 r_9 r_11 s_10)))))
set_option maxRecDepth 100000 in
set_option maxHeartbeats 4000000 in
theorem MO_fork_48_w {l : Launch} {D : va_G} {ad : Nat → Nat} {cA : Nat → ClassId} {tb : Nat} {E : zz_E} (hV : zz_ok (zm_V l D ad cA tb)) (h : zz_X (zm_V l D ad cA tb) E "FrameProcessorModel" prog_10_method_34_code 5 zt_T 5 119 none) (x1 : Int32) (x3 : Int32) (y0 : Int32) (st : zz_S) : zz_Z (zm_V l D ad cA tb) E 5 0 0 (zz_q (zm_V l D ad cA tb) E zz_jv) (MO_fork_48 x1 x3 y0 st) 48 [(0, .ref (ad 0)), (1, .int x1), (3, .int x3)] [.int y0] st := by
  unfold MO_fork_48
  refine zz_istore h dMO_fork_48 (Nat.le_of_ble_eq_true rfl) ?_
  refine zz_aload_n h dMO_fork_50 rfl ?_
  refine zz_iload_n h dMO_fork_51 rfl ?_
  refine zm_p_MO_newborn h zi_MO zf_MO_200 dMO_fork_52 (fun s_1 => ?_)
  refine zz_aload_n h dMO_fork_55 rfl ?_
  refine zz_iload h dMO_fork_56 rfl ?_
  refine zm_p_MO_newFrame h zi_MO zf_MO_203 dMO_fork_58 (fun s_2 => ?_)
  refine zz_aload_n h dMO_fork_61 rfl ?_
  refine zz_iload_n h dMO_fork_62 rfl ?_
  refine zm_p_MO_newPriority h zi_MO zf_MO_206 dMO_fork_63 (fun s_3 => ?_)
  exact zz_vret h dMO_fork_66
set_option maxRecDepth 100000 in
set_option maxHeartbeats 4000000 in
theorem MO_fork_32_w {l : Launch} {D : va_G} {ad : Nat → Nat} {cA : Nat → ClassId} {tb : Nat} {E : zz_E} (hV : zz_ok (zm_V l D ad cA tb)) (h : zz_X (zm_V l D ad cA tb) E "FrameProcessorModel" prog_10_method_34_code 5 zt_T 5 119 none) (x1 : Int32) (x2 : Int32) (x3 : Int32) (st : zz_S) : zz_Z (zm_V l D ad cA tb) E 5 0 0 (zz_q (zm_V l D ad cA tb) E zz_jv) (MO_fork_32 x1 x2 x3 st) 32 [(0, .ref (ad 0)), (1, .int x1), (2, .int x2), (3, .int x3)] [] st := by
  unfold MO_fork_32
  refine zz_aload_n h dMO_fork_32 rfl ?_
  refine zm_g_MO_fault h zi_MO zf_MO_68 dMO_fork_33 ?_
  refine zz_if_le h 43 dMO_fork_36 rfl ?_ ?_
  · refine zz_aload_n h dMO_fork_43 rfl ?_
    refine zz_iload_n h dMO_fork_44 rfl ?_
    refine zz_callV1i h 0 rfl rfl (MO_begun_c hV _ _) MO_begun_k zm_MO_197 rfl rfl ⟨Nat.le_of_ble_eq_true rfl, Nat.le_of_ble_eq_true rfl⟩ (Nat.le_of_ble_eq_true rfl) dMO_fork_45 (fun r_5 s_4 => ?_)
    exact zz_sub (MO_fork_48_w hV h _ _ _ _) rfl
  · refine zz_iconst (v := 0) h dMO_fork_39 zz_li_0 ?_
    refine zz_goto h 48 dMO_fork_40 rfl ?_
    exact zz_sub (MO_fork_48_w hV h _ _ _ _) rfl
set_option maxRecDepth 100000 in
set_option maxHeartbeats 4000000 in
theorem MO_fork_w {l : Launch} {D : va_G} {ad : Nat → Nat} {cA : Nat → ClassId} {tb : Nat} {E : zz_E} (hV : zz_ok (zm_V l D ad cA tb)) (h : zz_X (zm_V l D ad cA tb) E "FrameProcessorModel" prog_10_method_34_code 5 zt_T 5 119 none) (st : zz_S) : zz_Z (zm_V l D ad cA tb) E 5 0 0 (zz_q (zm_V l D ad cA tb) E zz_jv) (MO_fork_f  st) 0 [(0, .ref (ad 0))] [] st := by
  unfold MO_fork_f
  refine zz_aload_n h dMO_fork_0 rfl ?_
  refine zz_callV0i h 0 rfl rfl (MO_leastFree_c hV _) MO_leastFree_k zm_MO_194 rfl rfl ⟨Nat.le_of_ble_eq_true rfl, Nat.le_of_ble_eq_true rfl⟩ (Nat.le_of_ble_eq_true rfl) dMO_fork_1 (fun r_7 s_6 => ?_)
  refine zz_istore_n h dMO_fork_4 (Nat.le_of_ble_eq_true rfl) ?_
  refine zz_aload_n h dMO_fork_5 rfl ?_
  refine zz_callV0i h 0 rfl rfl (MO_pop_c hV _) MO_pop_k zm_MO_138 rfl rfl ⟨Nat.le_of_ble_eq_true rfl, Nat.le_of_ble_eq_true rfl⟩ (Nat.le_of_ble_eq_true rfl) dMO_fork_6 (fun r_9 s_8 => ?_)
  refine zz_istore_n h dMO_fork_9 (Nat.le_of_ble_eq_true rfl) ?_
  refine zz_aload_n h dMO_fork_10 rfl ?_
  refine zz_callV0i h 0 rfl rfl (MO_pop_c hV _) MO_pop_k zm_MO_138 rfl rfl ⟨Nat.le_of_ble_eq_true rfl, Nat.le_of_ble_eq_true rfl⟩ (Nat.le_of_ble_eq_true rfl) dMO_fork_11 (fun r_11 s_10 => ?_)
  refine zz_istore_n h dMO_fork_14 (Nat.le_of_ble_eq_true rfl) ?_
  refine zz_aload_n h dMO_fork_15 rfl ?_
  refine zm_g_MO_fault h zi_MO zf_MO_68 dMO_fork_16 ?_
  refine zz_if_ne h 32 dMO_fork_19 rfl ?_ ?_
  · refine zz_iload_n h dMO_fork_22 rfl ?_
    refine zz_if_ge h 32 dMO_fork_23 rfl ?_ ?_
    · exact zz_sub (MO_fork_32_w hV h _ _ _ _) rfl
    · refine zz_aload_n h dMO_fork_26 rfl ?_
      refine zz_bipush (v := 8) h dMO_fork_27 zz_lb_8 ?_
      refine zz_callV1v h 0 rfl rfl (MO_wrong_c hV _ _) MO_wrong_k zm_MO_75 rfl rfl ⟨Nat.le_of_ble_eq_true rfl, Nat.le_of_ble_eq_true rfl⟩ (Nat.le_of_ble_eq_true rfl) dMO_fork_29 (fun _ s_12 => ?_)
      exact zz_sub (MO_fork_32_w hV h _ _ _ _) rfl
  · exact zz_sub (MO_fork_32_w hV h _ _ _ _) rfl
theorem MO_fork_c {l : Launch} {D : va_G} {ad : Nat → Nat} {cA : Nat → ClassId} {tb : Nat} (hV : zz_ok (zm_V l D ad cA tb)) (st : zz_S) : zz_C (zm_V l D ad cA tb) yMO_fork (Cond.code yMO_fork prog_10_method_34_code 5 none :: zt_T) { frames := 5, cells := 0, slots := 0, locals := 119 } zz_jv [.ref (ad 0)] st (MO_fork_f  st) := zz_met hV (by decide +kernel) rfl (Nat.le_of_ble_eq_true rfl) rfl (fun E h => MO_fork_w hV h  st)
def MO_block_f (x1 : Int32) (st : zz_S) : Option (Unit × zz_S) := (zz_nm (zz_sg st 3) fun v_1 => (zz_gd (zz_in v_1 6) (zz_nm (zz_ap st 5 v_1.toNatClampNeg (2 : Int32)) fun s_2 => (zz_nm (zz_sg s_2 3) fun v_3 => (zz_gd (zz_in v_3 6) (zz_nm (zz_ap s_2 10 v_3.toNatClampNeg (x1 &&& (4095 : Int32))) fun s_4 => (some ((), s_4))))))))
set_option maxRecDepth 100000 in
set_option maxHeartbeats 4000000 in
theorem MO_block_w {l : Launch} {D : va_G} {ad : Nat → Nat} {cA : Nat → ClassId} {tb : Nat} {E : zz_E} (hV : zz_ok (zm_V l D ad cA tb)) (h : zz_X (zm_V l D ad cA tb) E "FrameProcessorModel" prog_10_method_36_code 2 zt_T 0 0 none) (x1 : Int32) (st : zz_S) : zz_Z (zm_V l D ad cA tb) E 2 0 0 (zz_q (zm_V l D ad cA tb) E zz_jv) (MO_block_f x1 st) 0 [(0, .ref (ad 0)), (1, .int x1)] [] st := by
  unfold MO_block_f
  refine zz_aload_n h dMO_block_0 rfl ?_
  refine zm_g_MO_state h zi_MO zf_MO_23 dMO_block_1 ?_
  refine zz_aload_n h dMO_block_4 rfl ?_
  refine zm_g_MO_me h zi_MO zf_MO_113 dMO_block_5 ?_
  refine zz_iconst (v := 2) h dMO_block_8 zz_li_2 ?_
  refine zz_top2 (fun v_1 => ?_)
  refine zm_st_5 h dMO_block_9 (fun s_2 => ?_)
  refine zz_aload_n h dMO_block_10 rfl ?_
  refine zm_g_MO_where h zi_MO zf_MO_38 dMO_block_11 ?_
  refine zz_aload_n h dMO_block_14 rfl ?_
  refine zm_g_MO_me h zi_MO zf_MO_113 dMO_block_15 ?_
  refine zz_iload_n h dMO_block_18 rfl ?_
  refine zz_sipush (v := 4095) h dMO_block_19 zz_ls_4095 ?_
  refine zz_iand h dMO_block_22 ?_
  refine zz_top2 (fun v_3 => ?_)
  refine zm_st_10 h dMO_block_23 (fun s_4 => ?_)
  exact zz_vret h dMO_block_24
theorem MO_block_c {l : Launch} {D : va_G} {ad : Nat → Nat} {cA : Nat → ClassId} {tb : Nat} (hV : zz_ok (zm_V l D ad cA tb)) (x1 : Int32) (st : zz_S) : zz_C (zm_V l D ad cA tb) yMO_block (Cond.code yMO_block prog_10_method_36_code 2 none :: zt_T) { frames := 0, cells := 0, slots := 0, locals := 0 } zz_jv [.ref (ad 0), .int x1] st (MO_block_f x1 st) := zz_met hV (by decide +kernel) rfl (Nat.le_of_ble_eq_true rfl) rfl (fun E h => MO_block_w hV h x1 st)
def MO_firstOf_151 (k5 : Int32 → Int32 → Int32 → Int32 → zz_S → Option (Int32 × zz_S)) (x1 : Int32) (x2 : Int32) (x3 : Int32) (x4 : Int32) (st : zz_S) : Option (Int32 × zz_S) := (k5 x1 x2 x3 (x4 + (1 : Int32)) st)
def MO_firstOf_148 (k5 : Int32 → Int32 → Int32 → Int32 → zz_S → Option (Int32 × zz_S)) (x1 : Int32) (x2 : Int32) (x4 : Int32) (st : zz_S) : Option (Int32 × zz_S) := (MO_firstOf_151 k5 x1 x2 x4 x4 st)
def MO_firstOf_79 (k5 : Int32 → Int32 → Int32 → Int32 → zz_S → Option (Int32 × zz_S)) (k48 : Int32 → Int32 → Int32 → Int32 → Int32 → Int32 → zz_S → Option (Int32 × zz_S)) (x1 : Int32) (x2 : Int32) (x3 : Int32) (x4 : Int32) (x6 : Int32) (y0 : Int32) (st : zz_S) : Option (Int32 × zz_S) := (k48 x1 x2 x3 x4 y0 (x6 + (1 : Int32)) st)
def MO_firstOf_78 (k5 : Int32 → Int32 → Int32 → Int32 → zz_S → Option (Int32 × zz_S)) (k48 : Int32 → Int32 → Int32 → Int32 → Int32 → Int32 → zz_S → Option (Int32 × zz_S)) (x1 : Int32) (x2 : Int32) (x3 : Int32) (x4 : Int32) (x6 : Int32) (st : zz_S) : Option (Int32 × zz_S) := (MO_firstOf_79 k5 k48 x1 x2 x3 x4 x6 (0 : Int32) st)
def MO_firstOf_48b (k5 : Int32 → Int32 → Int32 → Int32 → zz_S → Option (Int32 × zz_S)) (k48 : Int32 → Int32 → Int32 → Int32 → Int32 → Int32 → zz_S → Option (Int32 × zz_S)) (x1 : Int32) (x2 : Int32) (x3 : Int32) (x4 : Int32) (x5 : Int32) (x6 : Int32) (st : zz_S) : Option (Int32 × zz_S) := (if (zz_sg st 9) ≤ x6 then (if x5 = 0 then (MO_firstOf_151 k5 x1 x2 x3 x4 st) else (if x3 < 0 then (MO_firstOf_148 k5 x1 x2 x4 st) else (zz_gd (zz_in x4 6) (zz_gd (zz_in x3 6) (if (zz_ag st 6 x3.toNatClampNeg) < (zz_ag st 6 x4.toNatClampNeg) then (MO_firstOf_148 k5 x1 x2 x4 st) else (zz_gd (zz_in x4 6) (zz_gd (zz_in x3 6) (if (zz_ag st 6 x4.toNatClampNeg) = (zz_ag st 6 x3.toNatClampNeg) then (zz_gd (zz_in x4 6) (zz_gd (zz_in x3 6) (if 0 ≤ (lg_cmp (zz_lg st 1 x4.toNatClampNeg) (zz_lg st 1 x3.toNatClampNeg)) then (MO_firstOf_151 k5 x1 x2 x3 x4 st) else (MO_firstOf_148 k5 x1 x2 x4 st)))) else (MO_firstOf_151 k5 x1 x2 x3 x4 st))))))))) else (if x5 = 0 then (MO_firstOf_78 k5 k48 x1 x2 x3 x4 x6 st) else (zz_gd (zz_in x6 6) (if (zz_ag st 17 x6.toNatClampNeg) = x4 then (MO_firstOf_78 k5 k48 x1 x2 x3 x4 x6 st) else (MO_firstOf_79 k5 k48 x1 x2 x3 x4 x6 (1 : Int32) st)))))
def MO_firstOf_48 (k5 : Int32 → Int32 → Int32 → Int32 → zz_S → Option (Int32 × zz_S)) : Nat → Int32 → Int32 → Int32 → Int32 → Int32 → Int32 → zz_S → Option (Int32 × zz_S)
  | 0 => fun _ _ _ _ _ _ _ => none
  | n + 1 => MO_firstOf_48b k5 (MO_firstOf_48 k5 n)
def MO_firstOf_43 (k5 : Int32 → Int32 → Int32 → Int32 → zz_S → Option (Int32 × zz_S)) (x1 : Int32) (x2 : Int32) (x3 : Int32) (x4 : Int32) (y0 : Int32) (st : zz_S) : Option (Int32 × zz_S) := (MO_firstOf_48 k5 10 x1 x2 x3 x4 y0 (0 : Int32) st)
def MO_firstOf_42 (k5 : Int32 → Int32 → Int32 → Int32 → zz_S → Option (Int32 × zz_S)) (x1 : Int32) (x2 : Int32) (x3 : Int32) (x4 : Int32) (st : zz_S) : Option (Int32 × zz_S) := (MO_firstOf_43 k5 x1 x2 x3 x4 (0 : Int32) st)
def MO_firstOf_5b (k5 : Int32 → Int32 → Int32 → Int32 → zz_S → Option (Int32 × zz_S)) (x1 : Int32) (x2 : Int32) (x3 : Int32) (x4 : Int32) (st : zz_S) : Option (Int32 × zz_S) := (if (6 : Int32) ≤ x4 then (some (x3, st)) else (zz_gd (zz_in x4 6) (if (zz_ag st 5 x4.toNatClampNeg) = x1 then (zz_gd (zz_in x4 6) (if (zz_ag st 10 x4.toNatClampNeg) = (x2 &&& (4095 : Int32)) then (MO_firstOf_43 k5 x1 x2 x3 x4 (1 : Int32) st) else (MO_firstOf_42 k5 x1 x2 x3 x4 st))) else (MO_firstOf_42 k5 x1 x2 x3 x4 st))))
def MO_firstOf_5 : Nat → Int32 → Int32 → Int32 → Int32 → zz_S → Option (Int32 × zz_S)
  | 0 => fun _ _ _ _ _ => none
  | n + 1 => MO_firstOf_5b (MO_firstOf_5 n)
def MO_firstOf_f (x1 : Int32) (x2 : Int32) (st : zz_S) : Option (Int32 × zz_S) := (MO_firstOf_5 10 x1 x2 (-1 : Int32) (0 : Int32) st)
set_option maxRecDepth 100000 in
set_option maxHeartbeats 4000000 in
theorem MO_firstOf_151_w {l : Launch} {D : va_G} {ad : Nat → Nat} {cA : Nat → ClassId} {tb : Nat} {E : zz_E} (hV : zz_ok (zm_V l D ad cA tb)) (h : zz_X (zm_V l D ad cA tb) E "FrameProcessorModel" prog_10_method_22_code 7 zt_T 0 0 (some .int)) {k5 : Int32 → Int32 → Int32 → Int32 → zz_S → Option (Int32 × zz_S)} (hk5 : ∀ (x1 : Int32) (x2 : Int32) (x3 : Int32) (x4 : Int32) (st : zz_S), zz_Z (zm_V l D ad cA tb) E 7 0 0 (zz_q (zm_V l D ad cA tb) E zz_ji) (k5 x1 x2 x3 x4 st) 5 [(0, .ref (ad 0)), (1, .int x1), (2, .int x2), (3, .int x3), (4, .int x4)] [] st) (x1 : Int32) (x2 : Int32) (x3 : Int32) (x4 : Int32) (st : zz_S) : zz_Z (zm_V l D ad cA tb) E 7 0 0 (zz_q (zm_V l D ad cA tb) E zz_ji) (MO_firstOf_151 k5 x1 x2 x3 x4 st) 151 [(0, .ref (ad 0)), (1, .int x1), (2, .int x2), (3, .int x3), (4, .int x4)] [] st := by
  unfold MO_firstOf_151
  refine zz_iinc h (1 : Int32) dMO_firstOf_151 zz_li_1 rfl (Nat.le_of_ble_eq_true rfl) ?_
  refine zz_goto h 5 dMO_firstOf_154 rfl ?_
  exact zz_sub (hk5 _ _ _ _ _) rfl
set_option maxRecDepth 100000 in
set_option maxHeartbeats 4000000 in
theorem MO_firstOf_148_w {l : Launch} {D : va_G} {ad : Nat → Nat} {cA : Nat → ClassId} {tb : Nat} {E : zz_E} (hV : zz_ok (zm_V l D ad cA tb)) (h : zz_X (zm_V l D ad cA tb) E "FrameProcessorModel" prog_10_method_22_code 7 zt_T 0 0 (some .int)) {k5 : Int32 → Int32 → Int32 → Int32 → zz_S → Option (Int32 × zz_S)} (hk5 : ∀ (x1 : Int32) (x2 : Int32) (x3 : Int32) (x4 : Int32) (st : zz_S), zz_Z (zm_V l D ad cA tb) E 7 0 0 (zz_q (zm_V l D ad cA tb) E zz_ji) (k5 x1 x2 x3 x4 st) 5 [(0, .ref (ad 0)), (1, .int x1), (2, .int x2), (3, .int x3), (4, .int x4)] [] st) (x1 : Int32) (x2 : Int32) (x4 : Int32) (st : zz_S) : zz_Z (zm_V l D ad cA tb) E 7 0 0 (zz_q (zm_V l D ad cA tb) E zz_ji) (MO_firstOf_148 k5 x1 x2 x4 st) 148 [(0, .ref (ad 0)), (1, .int x1), (2, .int x2), (4, .int x4)] [] st := by
  unfold MO_firstOf_148
  refine zz_iload h dMO_firstOf_148 rfl ?_
  refine zz_istore_n h dMO_firstOf_150 (Nat.le_of_ble_eq_true rfl) ?_
  exact zz_sub (MO_firstOf_151_w hV h hk5 _ _ _ _ _) rfl
set_option maxRecDepth 100000 in
set_option maxHeartbeats 4000000 in
theorem MO_firstOf_79_w {l : Launch} {D : va_G} {ad : Nat → Nat} {cA : Nat → ClassId} {tb : Nat} {E : zz_E} (hV : zz_ok (zm_V l D ad cA tb)) (h : zz_X (zm_V l D ad cA tb) E "FrameProcessorModel" prog_10_method_22_code 7 zt_T 0 0 (some .int)) {k5 : Int32 → Int32 → Int32 → Int32 → zz_S → Option (Int32 × zz_S)} (hk5 : ∀ (x1 : Int32) (x2 : Int32) (x3 : Int32) (x4 : Int32) (st : zz_S), zz_Z (zm_V l D ad cA tb) E 7 0 0 (zz_q (zm_V l D ad cA tb) E zz_ji) (k5 x1 x2 x3 x4 st) 5 [(0, .ref (ad 0)), (1, .int x1), (2, .int x2), (3, .int x3), (4, .int x4)] [] st) {k48 : Int32 → Int32 → Int32 → Int32 → Int32 → Int32 → zz_S → Option (Int32 × zz_S)} (hk48 : ∀ (x1 : Int32) (x2 : Int32) (x3 : Int32) (x4 : Int32) (x5 : Int32) (x6 : Int32) (st : zz_S), zz_Z (zm_V l D ad cA tb) E 7 0 0 (zz_q (zm_V l D ad cA tb) E zz_ji) (k48 x1 x2 x3 x4 x5 x6 st) 48 [(0, .ref (ad 0)), (1, .int x1), (2, .int x2), (3, .int x3), (4, .int x4), (5, .int x5), (6, .int x6)] [] st) (x1 : Int32) (x2 : Int32) (x3 : Int32) (x4 : Int32) (x6 : Int32) (y0 : Int32) (st : zz_S) : zz_Z (zm_V l D ad cA tb) E 7 0 0 (zz_q (zm_V l D ad cA tb) E zz_ji) (MO_firstOf_79 k5 k48 x1 x2 x3 x4 x6 y0 st) 79 [(0, .ref (ad 0)), (1, .int x1), (2, .int x2), (3, .int x3), (4, .int x4), (6, .int x6)] [.int y0] st := by
  unfold MO_firstOf_79
  refine zz_istore h dMO_firstOf_79 (Nat.le_of_ble_eq_true rfl) ?_
  refine zz_iinc h (1 : Int32) dMO_firstOf_81 zz_li_1 rfl (Nat.le_of_ble_eq_true rfl) ?_
  refine zz_goto h 48 dMO_firstOf_84 rfl ?_
  exact zz_sub (hk48 _ _ _ _ _ _ _) rfl
set_option maxRecDepth 100000 in
set_option maxHeartbeats 4000000 in
theorem MO_firstOf_78_w {l : Launch} {D : va_G} {ad : Nat → Nat} {cA : Nat → ClassId} {tb : Nat} {E : zz_E} (hV : zz_ok (zm_V l D ad cA tb)) (h : zz_X (zm_V l D ad cA tb) E "FrameProcessorModel" prog_10_method_22_code 7 zt_T 0 0 (some .int)) {k5 : Int32 → Int32 → Int32 → Int32 → zz_S → Option (Int32 × zz_S)} (hk5 : ∀ (x1 : Int32) (x2 : Int32) (x3 : Int32) (x4 : Int32) (st : zz_S), zz_Z (zm_V l D ad cA tb) E 7 0 0 (zz_q (zm_V l D ad cA tb) E zz_ji) (k5 x1 x2 x3 x4 st) 5 [(0, .ref (ad 0)), (1, .int x1), (2, .int x2), (3, .int x3), (4, .int x4)] [] st) {k48 : Int32 → Int32 → Int32 → Int32 → Int32 → Int32 → zz_S → Option (Int32 × zz_S)} (hk48 : ∀ (x1 : Int32) (x2 : Int32) (x3 : Int32) (x4 : Int32) (x5 : Int32) (x6 : Int32) (st : zz_S), zz_Z (zm_V l D ad cA tb) E 7 0 0 (zz_q (zm_V l D ad cA tb) E zz_ji) (k48 x1 x2 x3 x4 x5 x6 st) 48 [(0, .ref (ad 0)), (1, .int x1), (2, .int x2), (3, .int x3), (4, .int x4), (5, .int x5), (6, .int x6)] [] st) (x1 : Int32) (x2 : Int32) (x3 : Int32) (x4 : Int32) (x6 : Int32) (st : zz_S) : zz_Z (zm_V l D ad cA tb) E 7 0 0 (zz_q (zm_V l D ad cA tb) E zz_ji) (MO_firstOf_78 k5 k48 x1 x2 x3 x4 x6 st) 78 [(0, .ref (ad 0)), (1, .int x1), (2, .int x2), (3, .int x3), (4, .int x4), (6, .int x6)] [] st := by
  unfold MO_firstOf_78
  refine zz_iconst (v := 0) h dMO_firstOf_78 zz_li_0 ?_
  exact zz_sub (MO_firstOf_79_w hV h hk5 hk48 _ _ _ _ _ _ _) rfl
set_option maxRecDepth 100000 in
set_option maxHeartbeats 4000000 in
theorem MO_firstOf_48b_w {l : Launch} {D : va_G} {ad : Nat → Nat} {cA : Nat → ClassId} {tb : Nat} {E : zz_E} (hV : zz_ok (zm_V l D ad cA tb)) (h : zz_X (zm_V l D ad cA tb) E "FrameProcessorModel" prog_10_method_22_code 7 zt_T 0 0 (some .int)) {k5 : Int32 → Int32 → Int32 → Int32 → zz_S → Option (Int32 × zz_S)} (hk5 : ∀ (x1 : Int32) (x2 : Int32) (x3 : Int32) (x4 : Int32) (st : zz_S), zz_Z (zm_V l D ad cA tb) E 7 0 0 (zz_q (zm_V l D ad cA tb) E zz_ji) (k5 x1 x2 x3 x4 st) 5 [(0, .ref (ad 0)), (1, .int x1), (2, .int x2), (3, .int x3), (4, .int x4)] [] st) {k48 : Int32 → Int32 → Int32 → Int32 → Int32 → Int32 → zz_S → Option (Int32 × zz_S)} (hk48 : ∀ (x1 : Int32) (x2 : Int32) (x3 : Int32) (x4 : Int32) (x5 : Int32) (x6 : Int32) (st : zz_S), zz_Z (zm_V l D ad cA tb) E 7 0 0 (zz_q (zm_V l D ad cA tb) E zz_ji) (k48 x1 x2 x3 x4 x5 x6 st) 48 [(0, .ref (ad 0)), (1, .int x1), (2, .int x2), (3, .int x3), (4, .int x4), (5, .int x5), (6, .int x6)] [] st) (x1 : Int32) (x2 : Int32) (x3 : Int32) (x4 : Int32) (x5 : Int32) (x6 : Int32) (st : zz_S) : zz_Z (zm_V l D ad cA tb) E 7 0 0 (zz_q (zm_V l D ad cA tb) E zz_ji) (MO_firstOf_48b k5 k48 x1 x2 x3 x4 x5 x6 st) 48 [(0, .ref (ad 0)), (1, .int x1), (2, .int x2), (3, .int x3), (4, .int x4), (5, .int x5), (6, .int x6)] [] st := by
  unfold MO_firstOf_48b
  refine zz_iload h dMO_firstOf_48 rfl ?_
  refine zz_aload_n h dMO_firstOf_50 rfl ?_
  refine zm_g_MO_waking h zi_MO zf_MO_126 dMO_firstOf_51 ?_
  refine zz_icmp_ge h 87 dMO_firstOf_54 rfl ?_ ?_
  · refine zz_iload h dMO_firstOf_87 rfl ?_
    refine zz_if_ne h 95 dMO_firstOf_89 rfl ?_ ?_
    · refine zz_goto h 151 dMO_firstOf_92 rfl ?_
      exact zz_sub (MO_firstOf_151_w hV h hk5 _ _ _ _ _) rfl
    · refine zz_iload_n h dMO_firstOf_95 rfl ?_
      refine zz_if_lt h 148 dMO_firstOf_96 rfl ?_ ?_
      · exact zz_sub (MO_firstOf_148_w hV h hk5 _ _ _ _) rfl
      · refine zz_aload_n h dMO_firstOf_99 rfl ?_
        refine zm_g_MO_priority h zi_MO zf_MO_26 dMO_firstOf_100 ?_
        refine zz_iload h dMO_firstOf_103 rfl ?_
        refine zm_ld_6 h dMO_firstOf_105 ?_
        refine zz_aload_n h dMO_firstOf_106 rfl ?_
        refine zm_g_MO_priority h zi_MO zf_MO_26 dMO_firstOf_107 ?_
        refine zz_iload_n h dMO_firstOf_110 rfl ?_
        refine zm_ld_6 h dMO_firstOf_111 ?_
        refine zz_icmp_gt h 148 dMO_firstOf_112 rfl ?_ ?_
        · exact zz_sub (MO_firstOf_148_w hV h hk5 _ _ _ _) rfl
        · refine zz_aload_n h dMO_firstOf_115 rfl ?_
          refine zm_g_MO_priority h zi_MO zf_MO_26 dMO_firstOf_116 ?_
          refine zz_iload h dMO_firstOf_119 rfl ?_
          refine zm_ld_6 h dMO_firstOf_121 ?_
          refine zz_aload_n h dMO_firstOf_122 rfl ?_
          refine zm_g_MO_priority h zi_MO zf_MO_26 dMO_firstOf_123 ?_
          refine zz_iload_n h dMO_firstOf_126 rfl ?_
          refine zm_ld_6 h dMO_firstOf_127 ?_
          refine zz_icmp_ne h 151 dMO_firstOf_128 rfl ?_ ?_
          · refine zz_aload_n h dMO_firstOf_131 rfl ?_
            refine zm_g_MO_since h zi_MO zf_MO_47 dMO_firstOf_132 ?_
            refine zz_iload h dMO_firstOf_135 rfl ?_
            refine zm_ld_13 h dMO_firstOf_137 ?_
            refine zz_aload_n h dMO_firstOf_138 rfl ?_
            refine zm_g_MO_since h zi_MO zf_MO_47 dMO_firstOf_139 ?_
            refine zz_iload_n h dMO_firstOf_142 rfl ?_
            refine zm_ld_13 h dMO_firstOf_143 ?_
            refine zz_lcmp h dMO_firstOf_144 ?_
            refine zz_if_ge h 151 dMO_firstOf_145 rfl ?_ ?_
            · exact zz_sub (MO_firstOf_151_w hV h hk5 _ _ _ _ _) rfl
            · exact zz_sub (MO_firstOf_148_w hV h hk5 _ _ _ _) rfl
          · exact zz_sub (MO_firstOf_151_w hV h hk5 _ _ _ _ _) rfl
  · refine zz_iload h dMO_firstOf_57 rfl ?_
    refine zz_if_eq h 78 dMO_firstOf_59 rfl ?_ ?_
    · exact zz_sub (MO_firstOf_78_w hV h hk5 hk48 _ _ _ _ _ _) rfl
    · refine zz_aload_n h dMO_firstOf_62 rfl ?_
      refine zm_g_MO_woken h zi_MO zf_MO_60 dMO_firstOf_63 ?_
      refine zz_iload h dMO_firstOf_66 rfl ?_
      refine zm_ld_17 h dMO_firstOf_68 ?_
      refine zz_iload h dMO_firstOf_69 rfl ?_
      refine zz_icmp_eq h 78 dMO_firstOf_71 rfl ?_ ?_
      · exact zz_sub (MO_firstOf_78_w hV h hk5 hk48 _ _ _ _ _ _) rfl
      · refine zz_iconst (v := 1) h dMO_firstOf_74 zz_li_1 ?_
        refine zz_goto h 79 dMO_firstOf_75 rfl ?_
        exact zz_sub (MO_firstOf_79_w hV h hk5 hk48 _ _ _ _ _ _ _) rfl
theorem MO_firstOf_48_w {l : Launch} {D : va_G} {ad : Nat → Nat} {cA : Nat → ClassId} {tb : Nat} {E : zz_E} (hV : zz_ok (zm_V l D ad cA tb)) (h : zz_X (zm_V l D ad cA tb) E "FrameProcessorModel" prog_10_method_22_code 7 zt_T 0 0 (some .int)) {k5 : Int32 → Int32 → Int32 → Int32 → zz_S → Option (Int32 × zz_S)} (hk5 : ∀ (x1 : Int32) (x2 : Int32) (x3 : Int32) (x4 : Int32) (st : zz_S), zz_Z (zm_V l D ad cA tb) E 7 0 0 (zz_q (zm_V l D ad cA tb) E zz_ji) (k5 x1 x2 x3 x4 st) 5 [(0, .ref (ad 0)), (1, .int x1), (2, .int x2), (3, .int x3), (4, .int x4)] [] st) : ∀ (n : Nat) (x1 : Int32) (x2 : Int32) (x3 : Int32) (x4 : Int32) (x5 : Int32) (x6 : Int32) (st : zz_S), zz_Z (zm_V l D ad cA tb) E 7 0 0 (zz_q (zm_V l D ad cA tb) E zz_ji) (MO_firstOf_48 k5 n x1 x2 x3 x4 x5 x6 st) 48 [(0, .ref (ad 0)), (1, .int x1), (2, .int x2), (3, .int x3), (4, .int x4), (5, .int x5), (6, .int x6)] [] st
  | 0, _, _, _, _, _, _, _ => zz_none
  | n + 1, x1, x2, x3, x4, x5, x6, st => MO_firstOf_48b_w hV h hk5 (MO_firstOf_48_w hV h hk5 n) x1 x2 x3 x4 x5 x6 st
set_option maxRecDepth 100000 in
set_option maxHeartbeats 4000000 in
theorem MO_firstOf_43_w {l : Launch} {D : va_G} {ad : Nat → Nat} {cA : Nat → ClassId} {tb : Nat} {E : zz_E} (hV : zz_ok (zm_V l D ad cA tb)) (h : zz_X (zm_V l D ad cA tb) E "FrameProcessorModel" prog_10_method_22_code 7 zt_T 0 0 (some .int)) {k5 : Int32 → Int32 → Int32 → Int32 → zz_S → Option (Int32 × zz_S)} (hk5 : ∀ (x1 : Int32) (x2 : Int32) (x3 : Int32) (x4 : Int32) (st : zz_S), zz_Z (zm_V l D ad cA tb) E 7 0 0 (zz_q (zm_V l D ad cA tb) E zz_ji) (k5 x1 x2 x3 x4 st) 5 [(0, .ref (ad 0)), (1, .int x1), (2, .int x2), (3, .int x3), (4, .int x4)] [] st) (x1 : Int32) (x2 : Int32) (x3 : Int32) (x4 : Int32) (y0 : Int32) (st : zz_S) : zz_Z (zm_V l D ad cA tb) E 7 0 0 (zz_q (zm_V l D ad cA tb) E zz_ji) (MO_firstOf_43 k5 x1 x2 x3 x4 y0 st) 43 [(0, .ref (ad 0)), (1, .int x1), (2, .int x2), (3, .int x3), (4, .int x4)] [.int y0] st := by
  unfold MO_firstOf_43
  refine zz_istore h dMO_firstOf_43 (Nat.le_of_ble_eq_true rfl) ?_
  refine zz_iconst (v := 0) h dMO_firstOf_45 zz_li_0 ?_
  refine zz_istore h dMO_firstOf_46 (Nat.le_of_ble_eq_true rfl) ?_
  exact zz_sub (MO_firstOf_48_w hV h hk5 _ _ _ _ _ _ _ _) rfl
set_option maxRecDepth 100000 in
set_option maxHeartbeats 4000000 in
theorem MO_firstOf_42_w {l : Launch} {D : va_G} {ad : Nat → Nat} {cA : Nat → ClassId} {tb : Nat} {E : zz_E} (hV : zz_ok (zm_V l D ad cA tb)) (h : zz_X (zm_V l D ad cA tb) E "FrameProcessorModel" prog_10_method_22_code 7 zt_T 0 0 (some .int)) {k5 : Int32 → Int32 → Int32 → Int32 → zz_S → Option (Int32 × zz_S)} (hk5 : ∀ (x1 : Int32) (x2 : Int32) (x3 : Int32) (x4 : Int32) (st : zz_S), zz_Z (zm_V l D ad cA tb) E 7 0 0 (zz_q (zm_V l D ad cA tb) E zz_ji) (k5 x1 x2 x3 x4 st) 5 [(0, .ref (ad 0)), (1, .int x1), (2, .int x2), (3, .int x3), (4, .int x4)] [] st) (x1 : Int32) (x2 : Int32) (x3 : Int32) (x4 : Int32) (st : zz_S) : zz_Z (zm_V l D ad cA tb) E 7 0 0 (zz_q (zm_V l D ad cA tb) E zz_ji) (MO_firstOf_42 k5 x1 x2 x3 x4 st) 42 [(0, .ref (ad 0)), (1, .int x1), (2, .int x2), (3, .int x3), (4, .int x4)] [] st := by
  unfold MO_firstOf_42
  refine zz_iconst (v := 0) h dMO_firstOf_42 zz_li_0 ?_
  exact zz_sub (MO_firstOf_43_w hV h hk5 _ _ _ _ _ _) rfl
set_option maxRecDepth 100000 in
set_option maxHeartbeats 4000000 in
theorem MO_firstOf_5b_w {l : Launch} {D : va_G} {ad : Nat → Nat} {cA : Nat → ClassId} {tb : Nat} {E : zz_E} (hV : zz_ok (zm_V l D ad cA tb)) (h : zz_X (zm_V l D ad cA tb) E "FrameProcessorModel" prog_10_method_22_code 7 zt_T 0 0 (some .int)) {k5 : Int32 → Int32 → Int32 → Int32 → zz_S → Option (Int32 × zz_S)} (hk5 : ∀ (x1 : Int32) (x2 : Int32) (x3 : Int32) (x4 : Int32) (st : zz_S), zz_Z (zm_V l D ad cA tb) E 7 0 0 (zz_q (zm_V l D ad cA tb) E zz_ji) (k5 x1 x2 x3 x4 st) 5 [(0, .ref (ad 0)), (1, .int x1), (2, .int x2), (3, .int x3), (4, .int x4)] [] st) (x1 : Int32) (x2 : Int32) (x3 : Int32) (x4 : Int32) (st : zz_S) : zz_Z (zm_V l D ad cA tb) E 7 0 0 (zz_q (zm_V l D ad cA tb) E zz_ji) (MO_firstOf_5b k5 x1 x2 x3 x4 st) 5 [(0, .ref (ad 0)), (1, .int x1), (2, .int x2), (3, .int x3), (4, .int x4)] [] st := by
  unfold MO_firstOf_5b
  refine zz_iload h dMO_firstOf_5 rfl ?_
  refine zz_bipush (v := 6) h dMO_firstOf_7 zz_lb_6 ?_
  refine zz_icmp_ge h 157 dMO_firstOf_9 rfl ?_ ?_
  · refine zz_iload_n h dMO_firstOf_157 rfl ?_
    exact zz_iret h dMO_firstOf_158
  · refine zz_aload_n h dMO_firstOf_12 rfl ?_
    refine zm_g_MO_state h zi_MO zf_MO_23 dMO_firstOf_13 ?_
    refine zz_iload h dMO_firstOf_16 rfl ?_
    refine zm_ld_5 h dMO_firstOf_18 ?_
    refine zz_iload_n h dMO_firstOf_19 rfl ?_
    refine zz_icmp_ne h 42 dMO_firstOf_20 rfl ?_ ?_
    · refine zz_aload_n h dMO_firstOf_23 rfl ?_
      refine zm_g_MO_where h zi_MO zf_MO_38 dMO_firstOf_24 ?_
      refine zz_iload h dMO_firstOf_27 rfl ?_
      refine zm_ld_10 h dMO_firstOf_29 ?_
      refine zz_iload_n h dMO_firstOf_30 rfl ?_
      refine zz_sipush (v := 4095) h dMO_firstOf_31 zz_ls_4095 ?_
      refine zz_iand h dMO_firstOf_34 ?_
      refine zz_icmp_ne h 42 dMO_firstOf_35 rfl ?_ ?_
      · refine zz_iconst (v := 1) h dMO_firstOf_38 zz_li_1 ?_
        refine zz_goto h 43 dMO_firstOf_39 rfl ?_
        exact zz_sub (MO_firstOf_43_w hV h hk5 _ _ _ _ _ _) rfl
      · exact zz_sub (MO_firstOf_42_w hV h hk5 _ _ _ _ _) rfl
    · exact zz_sub (MO_firstOf_42_w hV h hk5 _ _ _ _ _) rfl
theorem MO_firstOf_5_w {l : Launch} {D : va_G} {ad : Nat → Nat} {cA : Nat → ClassId} {tb : Nat} {E : zz_E} (hV : zz_ok (zm_V l D ad cA tb)) (h : zz_X (zm_V l D ad cA tb) E "FrameProcessorModel" prog_10_method_22_code 7 zt_T 0 0 (some .int)) : ∀ (n : Nat) (x1 : Int32) (x2 : Int32) (x3 : Int32) (x4 : Int32) (st : zz_S), zz_Z (zm_V l D ad cA tb) E 7 0 0 (zz_q (zm_V l D ad cA tb) E zz_ji) (MO_firstOf_5 n x1 x2 x3 x4 st) 5 [(0, .ref (ad 0)), (1, .int x1), (2, .int x2), (3, .int x3), (4, .int x4)] [] st
  | 0, _, _, _, _, _ => zz_none
  | n + 1, x1, x2, x3, x4, st => MO_firstOf_5b_w hV h (MO_firstOf_5_w hV h n) x1 x2 x3 x4 st
set_option maxRecDepth 100000 in
set_option maxHeartbeats 4000000 in
theorem MO_firstOf_w {l : Launch} {D : va_G} {ad : Nat → Nat} {cA : Nat → ClassId} {tb : Nat} {E : zz_E} (hV : zz_ok (zm_V l D ad cA tb)) (h : zz_X (zm_V l D ad cA tb) E "FrameProcessorModel" prog_10_method_22_code 7 zt_T 0 0 (some .int)) (x1 : Int32) (x2 : Int32) (st : zz_S) : zz_Z (zm_V l D ad cA tb) E 7 0 0 (zz_q (zm_V l D ad cA tb) E zz_ji) (MO_firstOf_f x1 x2 st) 0 [(0, .ref (ad 0)), (1, .int x1), (2, .int x2)] [] st := by
  unfold MO_firstOf_f
  refine zz_iconst (v := -1) h dMO_firstOf_0 zz_li_m1 ?_
  refine zz_istore_n h dMO_firstOf_1 (Nat.le_of_ble_eq_true rfl) ?_
  refine zz_iconst (v := 0) h dMO_firstOf_2 zz_li_0 ?_
  refine zz_istore h dMO_firstOf_3 (Nat.le_of_ble_eq_true rfl) ?_
  exact zz_sub (MO_firstOf_5_w hV h _ _ _ _ _ _) rfl
theorem MO_firstOf_c {l : Launch} {D : va_G} {ad : Nat → Nat} {cA : Nat → ClassId} {tb : Nat} (hV : zz_ok (zm_V l D ad cA tb)) (x1 : Int32) (x2 : Int32) (st : zz_S) : zz_C (zm_V l D ad cA tb) yMO_firstOf (Cond.code yMO_firstOf prog_10_method_22_code 7 (some .int) :: zt_T) { frames := 0, cells := 0, slots := 0, locals := 0 } zz_ji [.ref (ad 0), .int x1, .int x2] st (MO_firstOf_f x1 x2 st) := zz_met hV (by decide +kernel) rfl (Nat.le_of_ble_eq_true rfl) rfl (fun E h => MO_firstOf_w hV h x1 x2 st)
def MO_wake_17 (y0 : Int32) (st : zz_S) : Option (Int32 × zz_S) := (if 0 ≤ y0 then (zz_nm (zz_sg st 9) fun v_1 => (zz_gd (zz_in v_1 6) (zz_nm (zz_ap st 17 v_1.toNatClampNeg y0) fun s_2 => (zz_nm (zz_sp s_2 9 ((zz_sg s_2 9) + (1 : Int32))) fun s_3 => (some ((1 : Int32), s_3)))))) else (some ((0 : Int32), st)))
def MO_wake_f (x1 : Int32) (x2 : Int32) (st : zz_S) : Option (Int32 × zz_S) := (if (zz_sg st 2) ≤ 0 then (zz_bd (MO_firstOf_f x1 x2 st) fun r_5 s_4 => (MO_wake_17 r_5 s_4)) else (MO_wake_17 (-1 : Int32) st))
set_option maxRecDepth 100000 in
set_option maxHeartbeats 4000000 in
theorem MO_wake_17_w {l : Launch} {D : va_G} {ad : Nat → Nat} {cA : Nat → ClassId} {tb : Nat} {E : zz_E} (hV : zz_ok (zm_V l D ad cA tb)) (h : zz_X (zm_V l D ad cA tb) E "FrameProcessorModel" prog_10_method_23_code 4 zt_T 1 26 (some .boolean)) (y0 : Int32) (st : zz_S) : zz_Z (zm_V l D ad cA tb) E 4 0 0 (zz_q (zm_V l D ad cA tb) E zz_ji) (MO_wake_17 y0 st) 17 [(0, .ref (ad 0))] [.int y0] st := by
  unfold MO_wake_17
  refine zz_istore_n h dMO_wake_17 (Nat.le_of_ble_eq_true rfl) ?_
  refine zz_iload_n h dMO_wake_18 rfl ?_
  refine zz_if_ge h 24 dMO_wake_19 rfl ?_ ?_
  · refine zz_aload_n h dMO_wake_24 rfl ?_
    refine zm_g_MO_woken h zi_MO zf_MO_60 dMO_wake_25 ?_
    refine zz_aload_n h dMO_wake_28 rfl ?_
    refine zm_g_MO_waking h zi_MO zf_MO_126 dMO_wake_29 ?_
    refine zz_iload_n h dMO_wake_32 rfl ?_
    refine zz_top2 (fun v_1 => ?_)
    refine zm_st_17 h dMO_wake_33 (fun s_2 => ?_)
    refine zz_aload_n h dMO_wake_34 rfl ?_
    refine zz_dup h dMO_wake_35 rfl ?_
    refine zm_g_MO_waking h zi_MO zf_MO_126 dMO_wake_36 ?_
    refine zz_iconst (v := 1) h dMO_wake_39 zz_li_1 ?_
    refine zz_iadd h dMO_wake_40 ?_
    refine zm_p_MO_waking h zi_MO zf_MO_126 dMO_wake_41 (fun s_3 => ?_)
    refine zz_iconst (v := 1) h dMO_wake_44 zz_li_1 ?_
    exact zz_zret h dMO_wake_45 (by decide +kernel)
  · refine zz_iconst (v := 0) h dMO_wake_22 zz_li_0 ?_
    exact zz_zret h dMO_wake_23 (by decide +kernel)
set_option maxRecDepth 100000 in
set_option maxHeartbeats 4000000 in
theorem MO_wake_w {l : Launch} {D : va_G} {ad : Nat → Nat} {cA : Nat → ClassId} {tb : Nat} {E : zz_E} (hV : zz_ok (zm_V l D ad cA tb)) (h : zz_X (zm_V l D ad cA tb) E "FrameProcessorModel" prog_10_method_23_code 4 zt_T 1 26 (some .boolean)) (x1 : Int32) (x2 : Int32) (st : zz_S) : zz_Z (zm_V l D ad cA tb) E 4 0 0 (zz_q (zm_V l D ad cA tb) E zz_ji) (MO_wake_f x1 x2 st) 0 [(0, .ref (ad 0)), (1, .int x1), (2, .int x2)] [] st := by
  unfold MO_wake_f
  refine zz_aload_n h dMO_wake_0 rfl ?_
  refine zm_g_MO_fault h zi_MO zf_MO_68 dMO_wake_1 ?_
  refine zz_if_le h 11 dMO_wake_4 rfl ?_ ?_
  · refine zz_aload_n h dMO_wake_11 rfl ?_
    refine zz_iload_n h dMO_wake_12 rfl ?_
    refine zz_iload_n h dMO_wake_13 rfl ?_
    refine zz_callV2i h 0 rfl rfl (MO_firstOf_c hV _ _ _) MO_firstOf_k zm_MO_129 rfl rfl ⟨Nat.le_of_ble_eq_true rfl, Nat.le_of_ble_eq_true rfl⟩ (Nat.le_of_ble_eq_true rfl) dMO_wake_14 (fun r_5 s_4 => ?_)
    exact zz_sub (MO_wake_17_w hV h _ _) rfl
  · refine zz_iconst (v := -1) h dMO_wake_7 zz_li_m1 ?_
    refine zz_goto h 17 dMO_wake_8 rfl ?_
    exact zz_sub (MO_wake_17_w hV h _ _) rfl
theorem MO_wake_c {l : Launch} {D : va_G} {ad : Nat → Nat} {cA : Nat → ClassId} {tb : Nat} (hV : zz_ok (zm_V l D ad cA tb)) (x1 : Int32) (x2 : Int32) (st : zz_S) : zz_C (zm_V l D ad cA tb) yMO_wake (Cond.code yMO_wake prog_10_method_23_code 4 (some .boolean) :: zt_T) { frames := 1, cells := 0, slots := 0, locals := 26 } zz_ji [.ref (ad 0), .int x1, .int x2] st (MO_wake_f x1 x2 st) := zz_met hV (by decide +kernel) rfl (Nat.le_of_ble_eq_true rfl) rfl (fun E h => MO_wake_w hV h x1 x2 st)
def MO_exit_f (x1 : Int32) (st : zz_S) : Option (Unit × zz_S) := (zz_bd (MO_write_f x1 (0 : Int32) st) fun _ s_1 => (zz_bd (MO_wake_f (2 : Int32) x1 s_1) fun r_3 s_2 => (some ((), s_2))))
set_option maxRecDepth 100000 in
set_option maxHeartbeats 4000000 in
theorem MO_exit_w {l : Launch} {D : va_G} {ad : Nat → Nat} {cA : Nat → ClassId} {tb : Nat} {E : zz_E} (hV : zz_ok (zm_V l D ad cA tb)) (h : zz_X (zm_V l D ad cA tb) E "FrameProcessorModel" prog_10_method_35_code 3 zt_T 2 49 none) (x1 : Int32) (st : zz_S) : zz_Z (zm_V l D ad cA tb) E 3 0 0 (zz_q (zm_V l D ad cA tb) E zz_jv) (MO_exit_f x1 st) 0 [(0, .ref (ad 0)), (1, .int x1)] [] st := by
  unfold MO_exit_f
  refine zz_aload_n h dMO_exit_0 rfl ?_
  refine zz_iload_n h dMO_exit_1 rfl ?_
  refine zz_iconst (v := 0) h dMO_exit_2 zz_li_0 ?_
  refine zz_callV2v h 0 rfl rfl (MO_write_c hV _ _ _) MO_write_k zm_MO_103 rfl rfl ⟨Nat.le_of_ble_eq_true rfl, Nat.le_of_ble_eq_true rfl⟩ (Nat.le_of_ble_eq_true rfl) dMO_exit_3 (fun _ s_1 => ?_)
  refine zz_aload_n h dMO_exit_6 rfl ?_
  refine zz_iconst (v := 2) h dMO_exit_7 zz_li_2 ?_
  refine zz_iload_n h dMO_exit_8 rfl ?_
  refine zz_callV2i h 0 rfl rfl (MO_wake_c hV _ _ _) MO_wake_k zm_MO_183 rfl rfl ⟨Nat.le_of_ble_eq_true rfl, Nat.le_of_ble_eq_true rfl⟩ (Nat.le_of_ble_eq_true rfl) dMO_exit_9 (fun r_3 s_2 => ?_)
  refine zz_istore_n h dMO_exit_12 (Nat.le_of_ble_eq_true rfl) ?_
  exact zz_vret h dMO_exit_13
theorem MO_exit_c {l : Launch} {D : va_G} {ad : Nat → Nat} {cA : Nat → ClassId} {tb : Nat} (hV : zz_ok (zm_V l D ad cA tb)) (x1 : Int32) (st : zz_S) : zz_C (zm_V l D ad cA tb) yMO_exit (Cond.code yMO_exit prog_10_method_35_code 3 none :: zt_T) { frames := 2, cells := 0, slots := 0, locals := 49 } zz_jv [.ref (ad 0), .int x1] st (MO_exit_f x1 st) := zz_met hV (by decide +kernel) rfl (Nat.le_of_ble_eq_true rfl) rfl (fun E h => MO_exit_w hV h x1 st)
def MO_two_202 (y0 : Int32) (st : zz_S) : Option (Unit × zz_S) := (zz_bd (MO_push_f y0 st) fun _ s_1 => (some ((), s_1)))
def MO_two_181 (st : zz_S) : Option (Unit × zz_S) := (MO_two_202 (0 : Int32) st)
def MO_two_33 (x1 : Int32) (x2 : Int32) (x3 : Int32) (st : zz_S) : Option (Unit × zz_S) := (if (zz_sg st 2) ≤ 0 then (zz_bd (MO_signed_f x2 st) fun r_3 s_2 => (if x1 = (9 : Int32) then (zz_bd (MO_push_f (x3 + x2) s_2) fun _ s_5 => (some ((), s_5))) else (if x1 = (10 : Int32) then (zz_bd (MO_push_f (x3 - x2) s_2) fun _ s_7 => (some ((), s_7))) else (if x1 = (11 : Int32) then (zz_bd (MO_push_f (x3 * x2) s_2) fun _ s_9 => (some ((), s_9))) else (if x1 = (12 : Int32) then (zz_gd (x2 != 0) (zz_bd (MO_push_f (x3 / x2) s_2) fun _ s_11 => (some ((), s_11)))) else (if x1 = (13 : Int32) then (zz_bd (MO_push_f (x3 &&& x2) s_2) fun _ s_13 => (some ((), s_13))) else (if x1 = (14 : Int32) then (zz_bd (MO_push_f (x3 ||| x2) s_2) fun _ s_15 => (some ((), s_15))) else (if x1 = (15 : Int32) then (zz_bd (MO_push_f (x3 ^^^ x2) s_2) fun _ s_17 => (some ((), s_17))) else (if x1 = (16 : Int32) then (if (15 : Int32) < r_3 then (MO_two_181 s_2) else (if (-15 : Int32) ≤ r_3 then (if r_3 < 0 then (MO_two_202 (x3 >>> ((-r_3) &&& 31)) s_2) else (MO_two_202 (x3 <<< (r_3 &&& 31)) s_2)) else (MO_two_181 s_2))) else (zz_bd (MO_push_f x2 s_2) fun _ s_19 => (zz_bd (MO_push_f x3 s_19) fun _ s_20 => (some ((), s_20))))))))))))) else (some ((), st)))
def MO_two_f (x1 : Int32) (st : zz_S) : Option (Unit × zz_S) := (zz_bd (MO_pop_f st) fun r_22 s_21 => (zz_bd (MO_pop_f s_21) fun r_24 s_23 => (if x1 = (12 : Int32) then (if (zz_sg s_23 2) = 0 then (if r_22 = 0 then (zz_bd (MO_wrong_f (7 : Int32) s_23) fun _ s_25 => (MO_two_33 x1 r_22 r_24 s_25)) else (MO_two_33 x1 r_22 r_24 s_23)) else (MO_two_33 x1 r_22 r_24 s_23)) else (MO_two_33 x1 r_22 r_24 s_23))))
set_option maxRecDepth 100000 in
set_option maxHeartbeats 4000000 in
theorem MO_two_202_w {l : Launch} {D : va_G} {ad : Nat → Nat} {cA : Nat → ClassId} {tb : Nat} {E : zz_E} (hV : zz_ok (zm_V l D ad cA tb)) (h : zz_X (zm_V l D ad cA tb) E "FrameProcessorModel" prog_10_method_31_code 5 zt_T 2 41 none) (y0 : Int32) (st : zz_S) : zz_Z (zm_V l D ad cA tb) E 5 0 0 (zz_q (zm_V l D ad cA tb) E zz_jv) (MO_two_202 y0 st) 202 [] [.int y0, .ref (ad 0)] st := by
  unfold MO_two_202
  refine zz_callV1v h 0 rfl rfl (MO_push_c hV _ _) MO_push_k zm_MO_145 rfl rfl ⟨Nat.le_of_ble_eq_true rfl, Nat.le_of_ble_eq_true rfl⟩ (Nat.le_of_ble_eq_true rfl) dMO_two_202 (fun _ s_1 => ?_)
  refine zz_goto h 218 dMO_two_205 rfl ?_
  exact zz_vret h dMO_two_218
set_option maxRecDepth 100000 in
set_option maxHeartbeats 4000000 in
theorem MO_two_181_w {l : Launch} {D : va_G} {ad : Nat → Nat} {cA : Nat → ClassId} {tb : Nat} {E : zz_E} (hV : zz_ok (zm_V l D ad cA tb)) (h : zz_X (zm_V l D ad cA tb) E "FrameProcessorModel" prog_10_method_31_code 5 zt_T 2 41 none) (st : zz_S) : zz_Z (zm_V l D ad cA tb) E 5 0 0 (zz_q (zm_V l D ad cA tb) E zz_jv) (MO_two_181  st) 181 [] [.ref (ad 0)] st := by
  unfold MO_two_181
  refine zz_iconst (v := 0) h dMO_two_181 zz_li_0 ?_
  refine zz_goto h 202 dMO_two_182 rfl ?_
  exact zz_sub (MO_two_202_w hV h _ _) rfl
set_option maxRecDepth 100000 in
set_option maxHeartbeats 4000000 in
theorem MO_two_33_w {l : Launch} {D : va_G} {ad : Nat → Nat} {cA : Nat → ClassId} {tb : Nat} {E : zz_E} (hV : zz_ok (zm_V l D ad cA tb)) (h : zz_X (zm_V l D ad cA tb) E "FrameProcessorModel" prog_10_method_31_code 5 zt_T 2 41 none) (x1 : Int32) (x2 : Int32) (x3 : Int32) (st : zz_S) : zz_Z (zm_V l D ad cA tb) E 5 0 0 (zz_q (zm_V l D ad cA tb) E zz_jv) (MO_two_33 x1 x2 x3 st) 33 [(0, .ref (ad 0)), (1, .int x1), (2, .int x2), (3, .int x3)] [] st := by
  unfold MO_two_33
  refine zz_aload_n h dMO_two_33 rfl ?_
  refine zm_g_MO_fault h zi_MO zf_MO_68 dMO_two_34 ?_
  refine zz_if_le h 41 dMO_two_37 rfl ?_ ?_
  · refine zz_iload_n h dMO_two_41 rfl ?_
    refine zz_callS1i h (MO_signed_c hV _ _) MO_signed_k zm_MO_142 rfl rfl ⟨Nat.le_of_ble_eq_true rfl, Nat.le_of_ble_eq_true rfl⟩ (Nat.le_of_ble_eq_true rfl) dMO_two_42 (fun r_3 s_2 => ?_)
    refine zz_istore h dMO_two_45 (Nat.le_of_ble_eq_true rfl) ?_
    refine zz_iload_n h dMO_two_47 rfl ?_
    refine zz_ite (fun c_4 => ?_) (fun c_4 => ?_)
    · refine zz_table (off := 48) h 96 dMO_two_48 c_4 (by decide) (by decide) (by decide) rfl ?_
      refine zz_aload_n h dMO_two_96 rfl ?_
      refine zz_iload_n h dMO_two_97 rfl ?_
      refine zz_iload_n h dMO_two_98 rfl ?_
      refine zz_iadd h dMO_two_99 ?_
      refine zz_callV1v h 0 rfl rfl (MO_push_c hV _ _) MO_push_k zm_MO_145 rfl rfl ⟨Nat.le_of_ble_eq_true rfl, Nat.le_of_ble_eq_true rfl⟩ (Nat.le_of_ble_eq_true rfl) dMO_two_100 (fun _ s_5 => ?_)
      refine zz_goto h 218 dMO_two_103 rfl ?_
      exact zz_vret h dMO_two_218
    refine zz_ite (fun c_6 => ?_) (fun c_6 => ?_)
    · refine zz_table (off := 58) h 106 dMO_two_48 c_6 (by decide) (by decide) (by decide) rfl ?_
      refine zz_aload_n h dMO_two_106 rfl ?_
      refine zz_iload_n h dMO_two_107 rfl ?_
      refine zz_iload_n h dMO_two_108 rfl ?_
      refine zz_isub h dMO_two_109 ?_
      refine zz_callV1v h 0 rfl rfl (MO_push_c hV _ _) MO_push_k zm_MO_145 rfl rfl ⟨Nat.le_of_ble_eq_true rfl, Nat.le_of_ble_eq_true rfl⟩ (Nat.le_of_ble_eq_true rfl) dMO_two_110 (fun _ s_7 => ?_)
      refine zz_goto h 218 dMO_two_113 rfl ?_
      exact zz_vret h dMO_two_218
    refine zz_ite (fun c_8 => ?_) (fun c_8 => ?_)
    · refine zz_table (off := 68) h 116 dMO_two_48 c_8 (by decide) (by decide) (by decide) rfl ?_
      refine zz_aload_n h dMO_two_116 rfl ?_
      refine zz_iload_n h dMO_two_117 rfl ?_
      refine zz_iload_n h dMO_two_118 rfl ?_
      refine zz_imul h dMO_two_119 ?_
      refine zz_callV1v h 0 rfl rfl (MO_push_c hV _ _) MO_push_k zm_MO_145 rfl rfl ⟨Nat.le_of_ble_eq_true rfl, Nat.le_of_ble_eq_true rfl⟩ (Nat.le_of_ble_eq_true rfl) dMO_two_120 (fun _ s_9 => ?_)
      refine zz_goto h 218 dMO_two_123 rfl ?_
      exact zz_vret h dMO_two_218
    refine zz_ite (fun c_10 => ?_) (fun c_10 => ?_)
    · refine zz_table (off := 78) h 126 dMO_two_48 c_10 (by decide) (by decide) (by decide) rfl ?_
      refine zz_aload_n h dMO_two_126 rfl ?_
      refine zz_iload_n h dMO_two_127 rfl ?_
      refine zz_iload_n h dMO_two_128 rfl ?_
      refine zz_idivG h dMO_two_129 ?_
      refine zz_callV1v h 0 rfl rfl (MO_push_c hV _ _) MO_push_k zm_MO_145 rfl rfl ⟨Nat.le_of_ble_eq_true rfl, Nat.le_of_ble_eq_true rfl⟩ (Nat.le_of_ble_eq_true rfl) dMO_two_130 (fun _ s_11 => ?_)
      refine zz_goto h 218 dMO_two_133 rfl ?_
      exact zz_vret h dMO_two_218
    refine zz_ite (fun c_12 => ?_) (fun c_12 => ?_)
    · refine zz_table (off := 88) h 136 dMO_two_48 c_12 (by decide) (by decide) (by decide) rfl ?_
      refine zz_aload_n h dMO_two_136 rfl ?_
      refine zz_iload_n h dMO_two_137 rfl ?_
      refine zz_iload_n h dMO_two_138 rfl ?_
      refine zz_iand h dMO_two_139 ?_
      refine zz_callV1v h 0 rfl rfl (MO_push_c hV _ _) MO_push_k zm_MO_145 rfl rfl ⟨Nat.le_of_ble_eq_true rfl, Nat.le_of_ble_eq_true rfl⟩ (Nat.le_of_ble_eq_true rfl) dMO_two_140 (fun _ s_13 => ?_)
      refine zz_goto h 218 dMO_two_143 rfl ?_
      exact zz_vret h dMO_two_218
    refine zz_ite (fun c_14 => ?_) (fun c_14 => ?_)
    · refine zz_table (off := 98) h 146 dMO_two_48 c_14 (by decide) (by decide) (by decide) rfl ?_
      refine zz_aload_n h dMO_two_146 rfl ?_
      refine zz_iload_n h dMO_two_147 rfl ?_
      refine zz_iload_n h dMO_two_148 rfl ?_
      refine zz_ior h dMO_two_149 ?_
      refine zz_callV1v h 0 rfl rfl (MO_push_c hV _ _) MO_push_k zm_MO_145 rfl rfl ⟨Nat.le_of_ble_eq_true rfl, Nat.le_of_ble_eq_true rfl⟩ (Nat.le_of_ble_eq_true rfl) dMO_two_150 (fun _ s_15 => ?_)
      refine zz_goto h 218 dMO_two_153 rfl ?_
      exact zz_vret h dMO_two_218
    refine zz_ite (fun c_16 => ?_) (fun c_16 => ?_)
    · refine zz_table (off := 108) h 156 dMO_two_48 c_16 (by decide) (by decide) (by decide) rfl ?_
      refine zz_aload_n h dMO_two_156 rfl ?_
      refine zz_iload_n h dMO_two_157 rfl ?_
      refine zz_iload_n h dMO_two_158 rfl ?_
      refine zz_ixor h dMO_two_159 ?_
      refine zz_callV1v h 0 rfl rfl (MO_push_c hV _ _) MO_push_k zm_MO_145 rfl rfl ⟨Nat.le_of_ble_eq_true rfl, Nat.le_of_ble_eq_true rfl⟩ (Nat.le_of_ble_eq_true rfl) dMO_two_160 (fun _ s_17 => ?_)
      refine zz_goto h 218 dMO_two_163 rfl ?_
      exact zz_vret h dMO_two_218
    refine zz_ite (fun c_18 => ?_) (fun c_18 => ?_)
    · refine zz_table (off := 118) h 166 dMO_two_48 c_18 (by decide) (by decide) (by decide) rfl ?_
      refine zz_aload_n h dMO_two_166 rfl ?_
      refine zz_iload h dMO_two_167 rfl ?_
      refine zz_bipush (v := 15) h dMO_two_169 zz_lb_15 ?_
      refine zz_icmp_gt h 181 dMO_two_171 rfl ?_ ?_
      · exact zz_sub (MO_two_181_w hV h  _) rfl
      · refine zz_iload h dMO_two_174 rfl ?_
        refine zz_bipush (v := -15) h dMO_two_176 zz_lb_m15 ?_
        refine zz_icmp_ge h 185 dMO_two_178 rfl ?_ ?_
        · refine zz_iload h dMO_two_185 rfl ?_
          refine zz_if_lt h 197 dMO_two_187 rfl ?_ ?_
          · refine zz_iload_n h dMO_two_197 rfl ?_
            refine zz_iload h dMO_two_198 rfl ?_
            refine zz_ineg h dMO_two_200 ?_
            refine zz_ishr h dMO_two_201 ?_
            exact zz_sub (MO_two_202_w hV h _ _) rfl
          · refine zz_iload_n h dMO_two_190 rfl ?_
            refine zz_iload h dMO_two_191 rfl ?_
            refine zz_ishl h dMO_two_193 ?_
            refine zz_goto h 202 dMO_two_194 rfl ?_
            exact zz_sub (MO_two_202_w hV h _ _) rfl
        · exact zz_sub (MO_two_181_w hV h  _) rfl
    refine zz_tableD h 208 dMO_two_48 (by have z0 := lv_neT (a := 9) c_4 (by decide); have z1 := lv_neT (a := 10) c_6 (by decide); have z2 := lv_neT (a := 11) c_8 (by decide); have z3 := lv_neT (a := 12) c_10 (by decide); have z4 := lv_neT (a := 13) c_12 (by decide); have z5 := lv_neT (a := 14) c_14 (by decide); have z6 := lv_neT (a := 15) c_16 (by decide); have z7 := lv_neT (a := 16) c_18 (by decide); omega) rfl ?_
    refine zz_aload_n h dMO_two_208 rfl ?_
    refine zz_iload_n h dMO_two_209 rfl ?_
    refine zz_callV1v h 0 rfl rfl (MO_push_c hV _ _) MO_push_k zm_MO_145 rfl rfl ⟨Nat.le_of_ble_eq_true rfl, Nat.le_of_ble_eq_true rfl⟩ (Nat.le_of_ble_eq_true rfl) dMO_two_210 (fun _ s_19 => ?_)
    refine zz_aload_n h dMO_two_213 rfl ?_
    refine zz_iload_n h dMO_two_214 rfl ?_
    refine zz_callV1v h 0 rfl rfl (MO_push_c hV _ _) MO_push_k zm_MO_145 rfl rfl ⟨Nat.le_of_ble_eq_true rfl, Nat.le_of_ble_eq_true rfl⟩ (Nat.le_of_ble_eq_true rfl) dMO_two_215 (fun _ s_20 => ?_)
    exact zz_vret h dMO_two_218
  · exact zz_vret h dMO_two_40
set_option maxRecDepth 100000 in
set_option maxHeartbeats 4000000 in
theorem MO_two_w {l : Launch} {D : va_G} {ad : Nat → Nat} {cA : Nat → ClassId} {tb : Nat} {E : zz_E} (hV : zz_ok (zm_V l D ad cA tb)) (h : zz_X (zm_V l D ad cA tb) E "FrameProcessorModel" prog_10_method_31_code 5 zt_T 2 41 none) (x1 : Int32) (st : zz_S) : zz_Z (zm_V l D ad cA tb) E 5 0 0 (zz_q (zm_V l D ad cA tb) E zz_jv) (MO_two_f x1 st) 0 [(0, .ref (ad 0)), (1, .int x1)] [] st := by
  unfold MO_two_f
  refine zz_aload_n h dMO_two_0 rfl ?_
  refine zz_callV0i h 0 rfl rfl (MO_pop_c hV _) MO_pop_k zm_MO_138 rfl rfl ⟨Nat.le_of_ble_eq_true rfl, Nat.le_of_ble_eq_true rfl⟩ (Nat.le_of_ble_eq_true rfl) dMO_two_1 (fun r_22 s_21 => ?_)
  refine zz_istore_n h dMO_two_4 (Nat.le_of_ble_eq_true rfl) ?_
  refine zz_aload_n h dMO_two_5 rfl ?_
  refine zz_callV0i h 0 rfl rfl (MO_pop_c hV _) MO_pop_k zm_MO_138 rfl rfl ⟨Nat.le_of_ble_eq_true rfl, Nat.le_of_ble_eq_true rfl⟩ (Nat.le_of_ble_eq_true rfl) dMO_two_6 (fun r_24 s_23 => ?_)
  refine zz_istore_n h dMO_two_9 (Nat.le_of_ble_eq_true rfl) ?_
  refine zz_iload_n h dMO_two_10 rfl ?_
  refine zz_bipush (v := 12) h dMO_two_11 zz_lb_12 ?_
  refine zz_icmp_ne h 33 dMO_two_13 rfl ?_ ?_
  · refine zz_aload_n h dMO_two_16 rfl ?_
    refine zm_g_MO_fault h zi_MO zf_MO_68 dMO_two_17 ?_
    refine zz_if_ne h 33 dMO_two_20 rfl ?_ ?_
    · refine zz_iload_n h dMO_two_23 rfl ?_
      refine zz_if_ne h 33 dMO_two_24 rfl ?_ ?_
      · refine zz_aload_n h dMO_two_27 rfl ?_
        refine zz_bipush (v := 7) h dMO_two_28 zz_lb_7 ?_
        refine zz_callV1v h 0 rfl rfl (MO_wrong_c hV _ _) MO_wrong_k zm_MO_75 rfl rfl ⟨Nat.le_of_ble_eq_true rfl, Nat.le_of_ble_eq_true rfl⟩ (Nat.le_of_ble_eq_true rfl) dMO_two_30 (fun _ s_25 => ?_)
        exact zz_sub (MO_two_33_w hV h _ _ _ _) rfl
      · exact zz_sub (MO_two_33_w hV h _ _ _ _) rfl
    · exact zz_sub (MO_two_33_w hV h _ _ _ _) rfl
  · exact zz_sub (MO_two_33_w hV h _ _ _ _) rfl
theorem MO_two_c {l : Launch} {D : va_G} {ad : Nat → Nat} {cA : Nat → ClassId} {tb : Nat} (hV : zz_ok (zm_V l D ad cA tb)) (x1 : Int32) (st : zz_S) : zz_C (zm_V l D ad cA tb) yMO_two (Cond.code yMO_two prog_10_method_31_code 5 none :: zt_T) { frames := 2, cells := 0, slots := 0, locals := 41 } zz_jv [.ref (ad 0), .int x1] st (MO_two_f x1 st) := zz_met hV (by decide +kernel) rfl (Nat.le_of_ble_eq_true rfl) rfl (fun E h => MO_two_w hV h x1 st)
