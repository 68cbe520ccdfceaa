def MO_interrupt_16 (x1 : Int32) (y0 : Int32) (st : zz_S) : Option (Int32 × zz_S) := (zz_nm (zz_sp st 0 y0) fun s_1 => (if (zz_sg s_1 0) ≤ 0 then (zz_nm (zz_sp s_1 9 (0 : Int32)) fun s_2 => (zz_bd (MO_firstOf_f (3 : Int32) x1 s_2) fun r_4 s_3 => (if r_4 < 0 then (zz_bd (MO_at_f x1 s_3) fun r_6 s_5 => (if r_6 < 0 then (some ((-1 : Int32), s_5)) else (zz_nm (x1 / (256 : Int32)) fun v_7 => (zz_gd (zz_in v_7 16) (if (zz_ag s_5 4 v_7.toNatClampNeg) = 0 then (zz_gd (zz_in r_6 3072) (if (zz_rem (zz_ag s_5 3 r_6.toNatClampNeg) (2 : Int32)) = (1 : Int32) then (some ((-1 : Int32), s_5)) else (zz_gd (zz_in r_6 3072) (zz_gd (zz_in r_6 3072) (zz_nm (zz_ap s_5 3 r_6.toNatClampNeg ((zz_ag s_5 3 r_6.toNatClampNeg) + (1 : Int32))) fun s_8 => (zz_nm (r_6 / (256 : Int32)) fun v_9 => (zz_gd (zz_in v_9 12) (zz_nm (zz_ap s_8 2 v_9.toNatClampNeg (3 : Int32)) fun s_10 => (some ((-1 : Int32), s_10)))))))))) else (some ((-1 : Int32), s_5))))))) else (zz_bd (MO_ready_f r_4 s_3) fun _ s_11 => (some (r_4, s_11)))))) else (some ((0 : Int32), s_1))))
def MO_interrupt_f (x1 : Int32) (st : zz_S) : Option (Int32 × zz_S) := (zz_bd (MO_isNumber_f x1 (4096 : Int32) st) fun r_13 s_12 => (if r_13 = 0 then (MO_interrupt_16 x1 (1 : Int32) s_12) else (MO_interrupt_16 x1 (0 : Int32) s_12)))
set_option maxRecDepth 100000 in
set_option maxHeartbeats 4000000 in
theorem MO_interrupt_16_w {l : Launch} {D : va_G} {ad : Nat → Nat} {cA : Nat → ClassId} {tb : Nat} {E : zz_E} (hV : zz_ok (zm_V l D ad cA tb)) (h : zz_X (zm_V l D ad cA tb) E "FrameProcessorModel" prog_10_method_48_code 4 zt_T 2 43 (some .int)) (x1 : Int32) (y0 : Int32) (st : zz_S) : zz_Z (zm_V l D ad cA tb) E 4 0 0 (zz_q (zm_V l D ad cA tb) E zz_ji) (MO_interrupt_16 x1 y0 st) 16 [(0, .ref (ad 0)), (1, .int x1)] [.int y0, .ref (ad 0)] st := by
  unfold MO_interrupt_16
  refine zm_p_MO_thrown h zi_MO zf_MO_63 dMO_interrupt_16 (fun s_1 => ?_)
  refine zz_aload_n h dMO_interrupt_19 rfl ?_
  refine zm_g_MO_thrown h zi_MO zf_MO_63 dMO_interrupt_20 ?_
  refine zz_if_le h 28 dMO_interrupt_23 rfl ?_ ?_
  · refine zz_aload_n h dMO_interrupt_28 rfl ?_
    refine zz_iconst (v := 0) h dMO_interrupt_29 zz_li_0 ?_
    refine zm_p_MO_waking h zi_MO zf_MO_126 dMO_interrupt_30 (fun s_2 => ?_)
    refine zz_aload_n h dMO_interrupt_33 rfl ?_
    refine zz_iconst (v := 3) h dMO_interrupt_34 zz_li_3 ?_
    refine zz_iload_n h dMO_interrupt_35 rfl ?_
    refine zz_callV2i h 0 rfl rfl (MO_firstOf_c hV _ _ _) MO_firstOf_k zm_MO_129 rfl rfl ⟨Nat.le_of_ble_eq_true rfl, Nat.le_of_ble_eq_true rfl⟩ (Nat.le_of_ble_eq_true rfl) dMO_interrupt_36 (fun r_4 s_3 => ?_)
    refine zz_istore_n h dMO_interrupt_39 (Nat.le_of_ble_eq_true rfl) ?_
    refine zz_iload_n h dMO_interrupt_40 rfl ?_
    refine zz_if_lt h 51 dMO_interrupt_41 rfl ?_ ?_
    · refine zz_aload_n h dMO_interrupt_51 rfl ?_
      refine zz_iload_n h dMO_interrupt_52 rfl ?_
      refine zz_callV1i h 0 rfl rfl (MO_at_c hV _ _) MO_at_k zm_MO_71 rfl rfl ⟨Nat.le_of_ble_eq_true rfl, Nat.le_of_ble_eq_true rfl⟩ (Nat.le_of_ble_eq_true rfl) dMO_interrupt_53 (fun r_6 s_5 => ?_)
      refine zz_istore_n h dMO_interrupt_56 (Nat.le_of_ble_eq_true rfl) ?_
      refine zz_iload_n h dMO_interrupt_57 rfl ?_
      refine zz_if_lt h 86 dMO_interrupt_58 rfl ?_ ?_
      · refine zz_iconst (v := -1) h dMO_interrupt_86 zz_li_m1 ?_
        exact zz_iret h dMO_interrupt_87
      · refine zz_aload_n h dMO_interrupt_61 rfl ?_
        refine zm_g_MO_guarded h zi_MO zf_MO_19 dMO_interrupt_62 ?_
        refine zz_iload_n h dMO_interrupt_65 rfl ?_
        refine zz_sipush (v := 256) h dMO_interrupt_66 zz_ls_256 ?_
        refine zz_idiv h dMO_interrupt_69 (by decide) ?_
        refine zz_topi (fun v_7 => ?_)
        refine zm_ld_4 h dMO_interrupt_70 ?_
        refine zz_if_ne h 86 dMO_interrupt_71 rfl ?_ ?_
        · refine zz_aload_n h dMO_interrupt_74 rfl ?_
          refine zm_g_MO_words h zi_MO zf_MO_16 dMO_interrupt_75 ?_
          refine zz_iload_n h dMO_interrupt_78 rfl ?_
          refine zm_ld_3 h dMO_interrupt_79 ?_
          refine zz_iconst (v := 2) h dMO_interrupt_80 zz_li_2 ?_
          refine zz_irem h dMO_interrupt_81 (by decide) ?_
          refine zz_iconst (v := 1) h dMO_interrupt_82 zz_li_1 ?_
          refine zz_icmp_ne h 88 dMO_interrupt_83 rfl ?_ ?_
          · refine zz_iconst (v := -1) h dMO_interrupt_86 zz_li_m1 ?_
            exact zz_iret h dMO_interrupt_87
          · refine zz_aload_n h dMO_interrupt_88 rfl ?_
            refine zm_g_MO_words h zi_MO zf_MO_16 dMO_interrupt_89 ?_
            refine zz_iload_n h dMO_interrupt_92 rfl ?_
            refine zz_dup2 h dMO_interrupt_93 rfl rfl ?_
            refine zm_ld_3 h dMO_interrupt_94 ?_
            refine zz_iconst (v := 1) h dMO_interrupt_95 zz_li_1 ?_
            refine zz_iadd h dMO_interrupt_96 ?_
            refine zm_st_3 h dMO_interrupt_97 (fun s_8 => ?_)
            refine zz_aload_n h dMO_interrupt_98 rfl ?_
            refine zm_g_MO_notes h zi_MO zf_MO_13 dMO_interrupt_99 ?_
            refine zz_iload_n h dMO_interrupt_102 rfl ?_
            refine zz_sipush (v := 256) h dMO_interrupt_103 zz_ls_256 ?_
            refine zz_idiv h dMO_interrupt_106 (by decide) ?_
            refine zz_iconst (v := 3) h dMO_interrupt_107 zz_li_3 ?_
            refine zz_top2 (fun v_9 => ?_)
            refine zm_st_2 h dMO_interrupt_108 (fun s_10 => ?_)
            refine zz_iconst (v := -1) h dMO_interrupt_109 zz_li_m1 ?_
            exact zz_iret h dMO_interrupt_110
        · refine zz_iconst (v := -1) h dMO_interrupt_86 zz_li_m1 ?_
          exact zz_iret h dMO_interrupt_87
    · refine zz_aload_n h dMO_interrupt_44 rfl ?_
      refine zz_iload_n h dMO_interrupt_45 rfl ?_
      refine zz_callV1v h 0 rfl rfl (MO_ready_c hV _ _) MO_ready_k zm_MO_135 rfl rfl ⟨Nat.le_of_ble_eq_true rfl, Nat.le_of_ble_eq_true rfl⟩ (Nat.le_of_ble_eq_true rfl) dMO_interrupt_46 (fun _ s_11 => ?_)
      refine zz_iload_n h dMO_interrupt_49 rfl ?_
      exact zz_iret h dMO_interrupt_50
  · refine zz_iconst (v := 0) h dMO_interrupt_26 zz_li_0 ?_
    exact zz_iret h dMO_interrupt_27
set_option maxRecDepth 100000 in
set_option maxHeartbeats 4000000 in
theorem MO_interrupt_w {l : Launch} {D : va_G} {ad : Nat → Nat} {cA : Nat → ClassId} {tb : Nat} {E : zz_E} (hV : zz_ok (zm_V l D ad cA tb)) (h : zz_X (zm_V l D ad cA tb) E "FrameProcessorModel" prog_10_method_48_code 4 zt_T 2 43 (some .int)) (x1 : Int32) (st : zz_S) : zz_Z (zm_V l D ad cA tb) E 4 0 0 (zz_q (zm_V l D ad cA tb) E zz_ji) (MO_interrupt_f x1 st) 0 [(0, .ref (ad 0)), (1, .int x1)] [] st := by
  unfold MO_interrupt_f
  refine zz_aload_n h dMO_interrupt_0 rfl ?_
  refine zz_iload_n h dMO_interrupt_1 rfl ?_
  refine zz_sipush (v := 4096) h dMO_interrupt_2 zz_ls_4096 ?_
  refine zz_callS2i h (MO_isNumber_c hV _ _ _) MO_isNumber_k zm_MO_228 rfl rfl ⟨Nat.le_of_ble_eq_true rfl, Nat.le_of_ble_eq_true rfl⟩ (Nat.le_of_ble_eq_true rfl) dMO_interrupt_5 (fun r_13 s_12 => ?_)
  refine zz_if_eq h 15 dMO_interrupt_8 rfl ?_ ?_
  · refine zz_iconst (v := 1) h dMO_interrupt_15 zz_li_1 ?_
    exact zz_sub (MO_interrupt_16_w hV h _ _ _) rfl
  · refine zz_iconst (v := 0) h dMO_interrupt_11 zz_li_0 ?_
    refine zz_goto h 16 dMO_interrupt_12 rfl ?_
    exact zz_sub (MO_interrupt_16_w hV h _ _ _) rfl
theorem MO_interrupt_c {l : Launch} {D : va_G} {ad : Nat → Nat} {cA : Nat → ClassId} {tb : Nat} (hV : zz_ok (zm_V l D ad cA tb)) (x1 : Int32) (st : zz_S) : zz_C (zm_V l D ad cA tb) yMO_interrupt (Cond.code yMO_interrupt prog_10_method_48_code 4 (some .int) :: zt_T) { frames := 2, cells := 0, slots := 0, locals := 43 } zz_ji [.ref (ad 0), .int x1] st (MO_interrupt_f x1 st) := zz_met hV (by decide +kernel) rfl (Nat.le_of_ble_eq_true rfl) rfl (fun E h => MO_interrupt_w hV h x1 st)
def MO_tick_210 (k45 : Int32 → Int32 → Int32 → zz_S → Option (Int32 × zz_S)) (x2 : Int32) (x3 : Int32) (y0 : Int32) (st : zz_S) : Option (Int32 × zz_S) := (k45 x2 x3 y0 st)
def MO_tick_209 (k45 : Int32 → Int32 → Int32 → zz_S → Option (Int32 × zz_S)) (x2 : Int32) (x3 : Int32) (st : zz_S) : Option (Int32 × zz_S) := (MO_tick_210 k45 x2 x3 (0 : Int32) st)
def MO_tick_185 (k45 : Int32 → Int32 → Int32 → zz_S → Option (Int32 × zz_S)) (k117 : Int32 → Int32 → Int32 → Int32 → Int32 → zz_S → Option (Int32 × zz_S)) (x2 : Int32) (x3 : Int32) (x4 : Int32) (x5 : Int32) (x6 : Int32) (st : zz_S) : Option (Int32 × zz_S) := (k117 x2 x3 x4 x5 (x6 + (1 : Int32)) st)
def MO_tick_117b (k45 : Int32 → Int32 → Int32 → zz_S → Option (Int32 × zz_S)) (k117 : Int32 → Int32 → Int32 → Int32 → Int32 → zz_S → Option (Int32 × zz_S)) (x2 : Int32) (x3 : Int32) (x4 : Int32) (x5 : Int32) (x6 : Int32) (st : zz_S) : Option (Int32 × zz_S) := (if (6 : Int32) ≤ x6 then (zz_nm (x2 - x5) fun v_1 => (if x4 = 0 then (MO_tick_209 k45 v_1 x3 st) else (if v_1 ≤ 0 then (MO_tick_209 k45 v_1 x3 st) else (MO_tick_210 k45 v_1 x3 (1 : Int32) st)))) else (zz_gd (zz_in x6 6) (if (zz_ag st 5 x6.toNatClampNeg) = (3 : Int32) then (zz_gd (zz_in x6 6) (if (zz_ag st 11 x6.toNatClampNeg) = 0 then (MO_tick_185 k45 k117 x2 x3 x4 x5 x6 st) else (zz_gd (zz_in x6 6) (zz_gd (zz_in x6 6) (zz_nm (zz_ap st 11 x6.toNatClampNeg ((zz_ag st 11 x6.toNatClampNeg) - x5)) fun s_2 => (zz_gd (zz_in x6 6) (if (zz_ag s_2 11 x6.toNatClampNeg) ≤ 0 then (zz_bd (MO_ready_f x6 s_2) fun _ s_3 => (MO_tick_185 k45 k117 x2 (x3 + (1 : Int32)) (1 : Int32) x5 x6 s_3)) else (MO_tick_185 k45 k117 x2 x3 (1 : Int32) x5 x6 s_2)))))))) else (MO_tick_185 k45 k117 x2 x3 x4 x5 x6 st))))
def MO_tick_117 (k45 : Int32 → Int32 → Int32 → zz_S → Option (Int32 × zz_S)) : Nat → Int32 → Int32 → Int32 → Int32 → Int32 → zz_S → Option (Int32 × zz_S)
  | 0 => fun _ _ _ _ _ _ => none
  | n + 1 => MO_tick_117b k45 (MO_tick_117 k45 n)
def MO_tick_108 (k45 : Int32 → Int32 → Int32 → zz_S → Option (Int32 × zz_S)) (k59 : Int32 → Int32 → Int32 → Int32 → Int32 → zz_S → Option (Int32 × zz_S)) (x2 : Int32) (x3 : Int32) (x4 : Int32) (x5 : Int32) (x6 : Int32) (st : zz_S) : Option (Int32 × zz_S) := (k59 x2 x3 x4 x5 (x6 + (1 : Int32)) st)
def MO_tick_59b (k45 : Int32 → Int32 → Int32 → zz_S → Option (Int32 × zz_S)) (k59 : Int32 → Int32 → Int32 → Int32 → Int32 → zz_S → Option (Int32 × zz_S)) (x2 : Int32) (x3 : Int32) (x4 : Int32) (x5 : Int32) (x6 : Int32) (st : zz_S) : Option (Int32 × zz_S) := (if (6 : Int32) ≤ x6 then (MO_tick_117 k45 10 x2 x3 x4 x5 (0 : Int32) st) else (zz_gd (zz_in x6 6) (if (zz_ag st 5 x6.toNatClampNeg) = (3 : Int32) then (zz_gd (zz_in x6 6) (if (zz_ag st 11 x6.toNatClampNeg) ≤ 0 then (MO_tick_108 k45 k59 x2 x3 x4 x5 x6 st) else (zz_gd (zz_in x6 6) (if x5 < (zz_ag st 11 x6.toNatClampNeg) then (MO_tick_108 k45 k59 x2 x3 x4 x5 x6 st) else (zz_gd (zz_in x6 6) (zz_nm (zz_ag st 11 x6.toNatClampNeg) fun v_4 => (MO_tick_108 k45 k59 x2 x3 x4 v_4 x6 st))))))) else (MO_tick_108 k45 k59 x2 x3 x4 x5 x6 st))))
def MO_tick_59 (k45 : Int32 → Int32 → Int32 → zz_S → Option (Int32 × zz_S)) : Nat → Int32 → Int32 → Int32 → Int32 → Int32 → zz_S → Option (Int32 × zz_S)
  | 0 => fun _ _ _ _ _ _ => none
  | n + 1 => MO_tick_59b k45 (MO_tick_59 k45 n)
def MO_tick_45b (k45 : Int32 → Int32 → Int32 → zz_S → Option (Int32 × zz_S)) (x2 : Int32) (x3 : Int32) (x4 : Int32) (st : zz_S) : Option (Int32 × zz_S) := (if x4 = 0 then (some (x3, st)) else (MO_tick_59 k45 10 x2 x3 (0 : Int32) x2 (0 : Int32) st))
def MO_tick_45 : Nat → Int32 → Int32 → Int32 → zz_S → Option (Int32 × zz_S)
  | 0 => fun _ _ _ _ => none
  | n + 1 => MO_tick_45b (MO_tick_45 n)
def MO_tick_43 (x2 : Int32) (x3 : Int32) (y0 : Int32) (st : zz_S) : Option (Int32 × zz_S) := (MO_tick_45 10 x2 x3 y0 st)
def MO_tick_31 (y0 : Int32) (st : zz_S) : Option (Int32 × zz_S) := (if y0 ≤ 0 then (MO_tick_43 y0 (0 : Int32) (0 : Int32) st) else (MO_tick_43 y0 (0 : Int32) (1 : Int32) st))
def MO_tick_16 (x1 : Int32) (y0 : Int32) (st : zz_S) : Option (Int32 × zz_S) := (zz_nm (zz_sp st 0 y0) fun s_5 => (if (zz_sg s_5 0) ≤ 0 then (MO_tick_31 x1 s_5) else (MO_tick_31 (0 : Int32) s_5)))
def MO_tick_11 (x1 : Int32) (st : zz_S) : Option (Int32 × zz_S) := (MO_tick_16 x1 (1 : Int32) st)
def MO_tick_f (x1 : Int32) (st : zz_S) : Option (Int32 × zz_S) := (if x1 < 0 then (MO_tick_11 x1 st) else (if x1 ≤ (100000 : Int32) then (MO_tick_16 x1 (0 : Int32) st) else (MO_tick_11 x1 st)))
set_option maxRecDepth 100000 in
set_option maxHeartbeats 4000000 in
theorem MO_tick_210_w {l : Launch} {D : va_G} {ad : Nat → Nat} {cA : Nat → ClassId} {tb : Nat} {E : zz_E} (hV : zz_ok (zm_V l D ad cA tb)) (h : zz_X (zm_V l D ad cA tb) E "FrameProcessorModel" prog_10_method_49_code 7 zt_T 2 43 (some .int)) {k45 : Int32 → Int32 → Int32 → zz_S → Option (Int32 × zz_S)} (hk45 : ∀ (x2 : Int32) (x3 : Int32) (x4 : Int32) (st : zz_S), zz_Z (zm_V l D ad cA tb) E 7 0 0 (zz_q (zm_V l D ad cA tb) E zz_ji) (k45 x2 x3 x4 st) 45 [(0, .ref (ad 0)), (2, .int x2), (3, .int x3), (4, .int x4)] [] st) (x2 : Int32) (x3 : Int32) (y0 : Int32) (st : zz_S) : zz_Z (zm_V l D ad cA tb) E 7 0 0 (zz_q (zm_V l D ad cA tb) E zz_ji) (MO_tick_210 k45 x2 x3 y0 st) 210 [(0, .ref (ad 0)), (2, .int x2), (3, .int x3)] [.int y0] st := by
  unfold MO_tick_210
  refine zz_istore h dMO_tick_210 (Nat.le_of_ble_eq_true rfl) ?_
  refine zz_goto h 45 dMO_tick_212 rfl ?_
  exact zz_sub (hk45 _ _ _ _) rfl
set_option maxRecDepth 100000 in
set_option maxHeartbeats 4000000 in
theorem MO_tick_209_w {l : Launch} {D : va_G} {ad : Nat → Nat} {cA : Nat → ClassId} {tb : Nat} {E : zz_E} (hV : zz_ok (zm_V l D ad cA tb)) (h : zz_X (zm_V l D ad cA tb) E "FrameProcessorModel" prog_10_method_49_code 7 zt_T 2 43 (some .int)) {k45 : Int32 → Int32 → Int32 → zz_S → Option (Int32 × zz_S)} (hk45 : ∀ (x2 : Int32) (x3 : Int32) (x4 : Int32) (st : zz_S), zz_Z (zm_V l D ad cA tb) E 7 0 0 (zz_q (zm_V l D ad cA tb) E zz_ji) (k45 x2 x3 x4 st) 45 [(0, .ref (ad 0)), (2, .int x2), (3, .int x3), (4, .int x4)] [] st) (x2 : Int32) (x3 : Int32) (st : zz_S) : zz_Z (zm_V l D ad cA tb) E 7 0 0 (zz_q (zm_V l D ad cA tb) E zz_ji) (MO_tick_209 k45 x2 x3 st) 209 [(0, .ref (ad 0)), (2, .int x2), (3, .int x3)] [] st := by
  unfold MO_tick_209
  refine zz_iconst (v := 0) h dMO_tick_209 zz_li_0 ?_
  exact zz_sub (MO_tick_210_w hV h hk45 _ _ _ _) rfl
set_option maxRecDepth 100000 in
set_option maxHeartbeats 4000000 in
theorem MO_tick_185_w {l : Launch} {D : va_G} {ad : Nat → Nat} {cA : Nat → ClassId} {tb : Nat} {E : zz_E} (hV : zz_ok (zm_V l D ad cA tb)) (h : zz_X (zm_V l D ad cA tb) E "FrameProcessorModel" prog_10_method_49_code 7 zt_T 2 43 (some .int)) {k45 : Int32 → Int32 → Int32 → zz_S → Option (Int32 × zz_S)} (hk45 : ∀ (x2 : Int32) (x3 : Int32) (x4 : Int32) (st : zz_S), zz_Z (zm_V l D ad cA tb) E 7 0 0 (zz_q (zm_V l D ad cA tb) E zz_ji) (k45 x2 x3 x4 st) 45 [(0, .ref (ad 0)), (2, .int x2), (3, .int x3), (4, .int x4)] [] st) {k117 : Int32 → Int32 → Int32 → Int32 → Int32 → zz_S → Option (Int32 × zz_S)} (hk117 : ∀ (x2 : Int32) (x3 : Int32) (x4 : Int32) (x5 : Int32) (x6 : Int32) (st : zz_S), zz_Z (zm_V l D ad cA tb) E 7 0 0 (zz_q (zm_V l D ad cA tb) E zz_ji) (k117 x2 x3 x4 x5 x6 st) 117 [(0, .ref (ad 0)), (2, .int x2), (3, .int x3), (4, .int x4), (5, .int x5), (6, .int x6)] [] st) (x2 : Int32) (x3 : Int32) (x4 : Int32) (x5 : Int32) (x6 : Int32) (st : zz_S) : zz_Z (zm_V l D ad cA tb) E 7 0 0 (zz_q (zm_V l D ad cA tb) E zz_ji) (MO_tick_185 k45 k117 x2 x3 x4 x5 x6 st) 185 [(0, .ref (ad 0)), (2, .int x2), (3, .int x3), (4, .int x4), (5, .int x5), (6, .int x6)] [] st := by
  unfold MO_tick_185
  refine zz_iinc h (1 : Int32) dMO_tick_185 zz_li_1 rfl (Nat.le_of_ble_eq_true rfl) ?_
  refine zz_goto h 117 dMO_tick_188 rfl ?_
  exact zz_sub (hk117 _ _ _ _ _ _) rfl
set_option maxRecDepth 100000 in
set_option maxHeartbeats 4000000 in
theorem MO_tick_117b_w {l : Launch} {D : va_G} {ad : Nat → Nat} {cA : Nat → ClassId} {tb : Nat} {E : zz_E} (hV : zz_ok (zm_V l D ad cA tb)) (h : zz_X (zm_V l D ad cA tb) E "FrameProcessorModel" prog_10_method_49_code 7 zt_T 2 43 (some .int)) {k45 : Int32 → Int32 → Int32 → zz_S → Option (Int32 × zz_S)} (hk45 : ∀ (x2 : Int32) (x3 : Int32) (x4 : Int32) (st : zz_S), zz_Z (zm_V l D ad cA tb) E 7 0 0 (zz_q (zm_V l D ad cA tb) E zz_ji) (k45 x2 x3 x4 st) 45 [(0, .ref (ad 0)), (2, .int x2), (3, .int x3), (4, .int x4)] [] st) {k117 : Int32 → Int32 → Int32 → Int32 → Int32 → zz_S → Option (Int32 × zz_S)} (hk117 : ∀ (x2 : Int32) (x3 : Int32) (x4 : Int32) (x5 : Int32) (x6 : Int32) (st : zz_S), zz_Z (zm_V l D ad cA tb) E 7 0 0 (zz_q (zm_V l D ad cA tb) E zz_ji) (k117 x2 x3 x4 x5 x6 st) 117 [(0, .ref (ad 0)), (2, .int x2), (3, .int x3), (4, .int x4), (5, .int x5), (6, .int x6)] [] st) (x2 : Int32) (x3 : Int32) (x4 : Int32) (x5 : Int32) (x6 : Int32) (st : zz_S) : zz_Z (zm_V l D ad cA tb) E 7 0 0 (zz_q (zm_V l D ad cA tb) E zz_ji) (MO_tick_117b k45 k117 x2 x3 x4 x5 x6 st) 117 [(0, .ref (ad 0)), (2, .int x2), (3, .int x3), (4, .int x4), (5, .int x5), (6, .int x6)] [] st := by
  unfold MO_tick_117b
  refine zz_iload h dMO_tick_117 rfl ?_
  refine zz_bipush (v := 6) h dMO_tick_119 zz_lb_6 ?_
  refine zz_icmp_ge h 191 dMO_tick_121 rfl ?_ ?_
  · refine zz_iload_n h dMO_tick_191 rfl ?_
    refine zz_iload h dMO_tick_192 rfl ?_
    refine zz_isub h dMO_tick_194 ?_
    refine zz_topi (fun v_1 => ?_)
    refine zz_istore_n h dMO_tick_195 (Nat.le_of_ble_eq_true rfl) ?_
    refine zz_iload h dMO_tick_196 rfl ?_
    refine zz_if_eq h 209 dMO_tick_198 rfl ?_ ?_
    · exact zz_sub (MO_tick_209_w hV h hk45 _ _ _) rfl
    · refine zz_iload_n h dMO_tick_201 rfl ?_
      refine zz_if_le h 209 dMO_tick_202 rfl ?_ ?_
      · exact zz_sub (MO_tick_209_w hV h hk45 _ _ _) rfl
      · refine zz_iconst (v := 1) h dMO_tick_205 zz_li_1 ?_
        refine zz_goto h 210 dMO_tick_206 rfl ?_
        exact zz_sub (MO_tick_210_w hV h hk45 _ _ _ _) rfl
  · refine zz_aload_n h dMO_tick_124 rfl ?_
    refine zm_g_MO_state h zi_MO zf_MO_23 dMO_tick_125 ?_
    refine zz_iload h dMO_tick_128 rfl ?_
    refine zm_ld_5 h dMO_tick_130 ?_
    refine zz_iconst (v := 3) h dMO_tick_131 zz_li_3 ?_
    refine zz_icmp_ne h 185 dMO_tick_132 rfl ?_ ?_
    · refine zz_aload_n h dMO_tick_135 rfl ?_
      refine zm_g_MO_timeout h zi_MO zf_MO_41 dMO_tick_136 ?_
      refine zz_iload h dMO_tick_139 rfl ?_
      refine zm_ld_11 h dMO_tick_141 ?_
      refine zz_if_ne h 148 dMO_tick_142 rfl ?_ ?_
      · refine zz_goto h 185 dMO_tick_145 rfl ?_
        exact zz_sub (MO_tick_185_w hV h hk45 hk117 _ _ _ _ _ _) rfl
      · refine zz_aload_n h dMO_tick_148 rfl ?_
        refine zm_g_MO_timeout h zi_MO zf_MO_41 dMO_tick_149 ?_
        refine zz_iload h dMO_tick_152 rfl ?_
        refine zz_dup2 h dMO_tick_154 rfl rfl ?_
        refine zm_ld_11 h dMO_tick_155 ?_
        refine zz_iload h dMO_tick_156 rfl ?_
        refine zz_isub h dMO_tick_158 ?_
        refine zm_st_11 h dMO_tick_159 (fun s_2 => ?_)
        refine zz_iconst (v := 1) h dMO_tick_160 zz_li_1 ?_
        refine zz_istore h dMO_tick_161 (Nat.le_of_ble_eq_true rfl) ?_
        refine zz_aload_n h dMO_tick_163 rfl ?_
        refine zm_g_MO_timeout h zi_MO zf_MO_41 dMO_tick_164 ?_
        refine zz_iload h dMO_tick_167 rfl ?_
        refine zm_ld_11 h dMO_tick_169 ?_
        refine zz_if_le h 176 dMO_tick_170 rfl ?_ ?_
        · refine zz_aload_n h dMO_tick_176 rfl ?_
          refine zz_iload h dMO_tick_177 rfl ?_
          refine zz_callV1v h 0 rfl rfl (MO_ready_c hV _ _) MO_ready_k zm_MO_135 rfl rfl ⟨Nat.le_of_ble_eq_true rfl, Nat.le_of_ble_eq_true rfl⟩ (Nat.le_of_ble_eq_true rfl) dMO_tick_179 (fun _ s_3 => ?_)
          refine zz_iinc h (1 : Int32) dMO_tick_182 zz_li_1 rfl (Nat.le_of_ble_eq_true rfl) ?_
          exact zz_sub (MO_tick_185_w hV h hk45 hk117 _ _ _ _ _ _) rfl
        · refine zz_goto h 185 dMO_tick_173 rfl ?_
          exact zz_sub (MO_tick_185_w hV h hk45 hk117 _ _ _ _ _ _) rfl
    · exact zz_sub (MO_tick_185_w hV h hk45 hk117 _ _ _ _ _ _) rfl
theorem MO_tick_117_w {l : Launch} {D : va_G} {ad : Nat → Nat} {cA : Nat → ClassId} {tb : Nat} {E : zz_E} (hV : zz_ok (zm_V l D ad cA tb)) (h : zz_X (zm_V l D ad cA tb) E "FrameProcessorModel" prog_10_method_49_code 7 zt_T 2 43 (some .int)) {k45 : Int32 → Int32 → Int32 → zz_S → Option (Int32 × zz_S)} (hk45 : ∀ (x2 : Int32) (x3 : Int32) (x4 : Int32) (st : zz_S), zz_Z (zm_V l D ad cA tb) E 7 0 0 (zz_q (zm_V l D ad cA tb) E zz_ji) (k45 x2 x3 x4 st) 45 [(0, .ref (ad 0)), (2, .int x2), (3, .int x3), (4, .int x4)] [] st) : ∀ (n : Nat) (x2 : Int32) (x3 : Int32) (x4 : Int32) (x5 : Int32) (x6 : Int32) (st : zz_S), zz_Z (zm_V l D ad cA tb) E 7 0 0 (zz_q (zm_V l D ad cA tb) E zz_ji) (MO_tick_117 k45 n x2 x3 x4 x5 x6 st) 117 [(0, .ref (ad 0)), (2, .int x2), (3, .int x3), (4, .int x4), (5, .int x5), (6, .int x6)] [] st
  | 0, _, _, _, _, _, _ => zz_none
  | n + 1, x2, x3, x4, x5, x6, st => MO_tick_117b_w hV h hk45 (MO_tick_117_w hV h hk45 n) x2 x3 x4 x5 x6 st
set_option maxRecDepth 100000 in
set_option maxHeartbeats 4000000 in
theorem MO_tick_108_w {l : Launch} {D : va_G} {ad : Nat → Nat} {cA : Nat → ClassId} {tb : Nat} {E : zz_E} (hV : zz_ok (zm_V l D ad cA tb)) (h : zz_X (zm_V l D ad cA tb) E "FrameProcessorModel" prog_10_method_49_code 7 zt_T 2 43 (some .int)) {k45 : Int32 → Int32 → Int32 → zz_S → Option (Int32 × zz_S)} (hk45 : ∀ (x2 : Int32) (x3 : Int32) (x4 : Int32) (st : zz_S), zz_Z (zm_V l D ad cA tb) E 7 0 0 (zz_q (zm_V l D ad cA tb) E zz_ji) (k45 x2 x3 x4 st) 45 [(0, .ref (ad 0)), (2, .int x2), (3, .int x3), (4, .int x4)] [] st) {k59 : Int32 → Int32 → Int32 → Int32 → Int32 → zz_S → Option (Int32 × zz_S)} (hk59 : ∀ (x2 : Int32) (x3 : Int32) (x4 : Int32) (x5 : Int32) (x6 : Int32) (st : zz_S), zz_Z (zm_V l D ad cA tb) E 7 0 0 (zz_q (zm_V l D ad cA tb) E zz_ji) (k59 x2 x3 x4 x5 x6 st) 59 [(0, .ref (ad 0)), (2, .int x2), (3, .int x3), (4, .int x4), (5, .int x5), (6, .int x6)] [] st) (x2 : Int32) (x3 : Int32) (x4 : Int32) (x5 : Int32) (x6 : Int32) (st : zz_S) : zz_Z (zm_V l D ad cA tb) E 7 0 0 (zz_q (zm_V l D ad cA tb) E zz_ji) (MO_tick_108 k45 k59 x2 x3 x4 x5 x6 st) 108 [(0, .ref (ad 0)), (2, .int x2), (3, .int x3), (4, .int x4), (5, .int x5), (6, .int x6)] [] st := by
  unfold MO_tick_108
  refine zz_iinc h (1 : Int32) dMO_tick_108 zz_li_1 rfl (Nat.le_of_ble_eq_true rfl) ?_
  refine zz_goto h 59 dMO_tick_111 rfl ?_
  exact zz_sub (hk59 _ _ _ _ _ _) rfl
set_option maxRecDepth 100000 in
set_option maxHeartbeats 4000000 in
theorem MO_tick_59b_w {l : Launch} {D : va_G} {ad : Nat → Nat} {cA : Nat → ClassId} {tb : Nat} {E : zz_E} (hV : zz_ok (zm_V l D ad cA tb)) (h : zz_X (zm_V l D ad cA tb) E "FrameProcessorModel" prog_10_method_49_code 7 zt_T 2 43 (some .int)) {k45 : Int32 → Int32 → Int32 → zz_S → Option (Int32 × zz_S)} (hk45 : ∀ (x2 : Int32) (x3 : Int32) (x4 : Int32) (st : zz_S), zz_Z (zm_V l D ad cA tb) E 7 0 0 (zz_q (zm_V l D ad cA tb) E zz_ji) (k45 x2 x3 x4 st) 45 [(0, .ref (ad 0)), (2, .int x2), (3, .int x3), (4, .int x4)] [] st) {k59 : Int32 → Int32 → Int32 → Int32 → Int32 → zz_S → Option (Int32 × zz_S)} (hk59 : ∀ (x2 : Int32) (x3 : Int32) (x4 : Int32) (x5 : Int32) (x6 : Int32) (st : zz_S), zz_Z (zm_V l D ad cA tb) E 7 0 0 (zz_q (zm_V l D ad cA tb) E zz_ji) (k59 x2 x3 x4 x5 x6 st) 59 [(0, .ref (ad 0)), (2, .int x2), (3, .int x3), (4, .int x4), (5, .int x5), (6, .int x6)] [] st) (x2 : Int32) (x3 : Int32) (x4 : Int32) (x5 : Int32) (x6 : Int32) (st : zz_S) : zz_Z (zm_V l D ad cA tb) E 7 0 0 (zz_q (zm_V l D ad cA tb) E zz_ji) (MO_tick_59b k45 k59 x2 x3 x4 x5 x6 st) 59 [(0, .ref (ad 0)), (2, .int x2), (3, .int x3), (4, .int x4), (5, .int x5), (6, .int x6)] [] st := by
  unfold MO_tick_59b
  refine zz_iload h dMO_tick_59 rfl ?_
  refine zz_bipush (v := 6) h dMO_tick_61 zz_lb_6 ?_
  refine zz_icmp_ge h 114 dMO_tick_63 rfl ?_ ?_
  · refine zz_iconst (v := 0) h dMO_tick_114 zz_li_0 ?_
    refine zz_istore h dMO_tick_115 (Nat.le_of_ble_eq_true rfl) ?_
    exact zz_sub (MO_tick_117_w hV h hk45 _ _ _ _ _ _ _) rfl
  · refine zz_aload_n h dMO_tick_66 rfl ?_
    refine zm_g_MO_state h zi_MO zf_MO_23 dMO_tick_67 ?_
    refine zz_iload h dMO_tick_70 rfl ?_
    refine zm_ld_5 h dMO_tick_72 ?_
    refine zz_iconst (v := 3) h dMO_tick_73 zz_li_3 ?_
    refine zz_icmp_ne h 108 dMO_tick_74 rfl ?_ ?_
    · refine zz_aload_n h dMO_tick_77 rfl ?_
      refine zm_g_MO_timeout h zi_MO zf_MO_41 dMO_tick_78 ?_
      refine zz_iload h dMO_tick_81 rfl ?_
      refine zm_ld_11 h dMO_tick_83 ?_
      refine zz_if_le h 108 dMO_tick_84 rfl ?_ ?_
      · exact zz_sub (MO_tick_108_w hV h hk45 hk59 _ _ _ _ _ _) rfl
      · refine zz_aload_n h dMO_tick_87 rfl ?_
        refine zm_g_MO_timeout h zi_MO zf_MO_41 dMO_tick_88 ?_
        refine zz_iload h dMO_tick_91 rfl ?_
        refine zm_ld_11 h dMO_tick_93 ?_
        refine zz_iload h dMO_tick_94 rfl ?_
        refine zz_icmp_gt h 108 dMO_tick_96 rfl ?_ ?_
        · exact zz_sub (MO_tick_108_w hV h hk45 hk59 _ _ _ _ _ _) rfl
        · refine zz_aload_n h dMO_tick_99 rfl ?_
          refine zm_g_MO_timeout h zi_MO zf_MO_41 dMO_tick_100 ?_
          refine zz_iload h dMO_tick_103 rfl ?_
          refine zm_ld_11 h dMO_tick_105 ?_
          refine zz_topi (fun v_4 => ?_)
          refine zz_istore h dMO_tick_106 (Nat.le_of_ble_eq_true rfl) ?_
          exact zz_sub (MO_tick_108_w hV h hk45 hk59 _ _ _ _ _ _) rfl
    · exact zz_sub (MO_tick_108_w hV h hk45 hk59 _ _ _ _ _ _) rfl
theorem MO_tick_59_w {l : Launch} {D : va_G} {ad : Nat → Nat} {cA : Nat → ClassId} {tb : Nat} {E : zz_E} (hV : zz_ok (zm_V l D ad cA tb)) (h : zz_X (zm_V l D ad cA tb) E "FrameProcessorModel" prog_10_method_49_code 7 zt_T 2 43 (some .int)) {k45 : Int32 → Int32 → Int32 → zz_S → Option (Int32 × zz_S)} (hk45 : ∀ (x2 : Int32) (x3 : Int32) (x4 : Int32) (st : zz_S), zz_Z (zm_V l D ad cA tb) E 7 0 0 (zz_q (zm_V l D ad cA tb) E zz_ji) (k45 x2 x3 x4 st) 45 [(0, .ref (ad 0)), (2, .int x2), (3, .int x3), (4, .int x4)] [] st) : ∀ (n : Nat) (x2 : Int32) (x3 : Int32) (x4 : Int32) (x5 : Int32) (x6 : Int32) (st : zz_S), zz_Z (zm_V l D ad cA tb) E 7 0 0 (zz_q (zm_V l D ad cA tb) E zz_ji) (MO_tick_59 k45 n x2 x3 x4 x5 x6 st) 59 [(0, .ref (ad 0)), (2, .int x2), (3, .int x3), (4, .int x4), (5, .int x5), (6, .int x6)] [] st
  | 0, _, _, _, _, _, _ => zz_none
  | n + 1, x2, x3, x4, x5, x6, st => MO_tick_59b_w hV h hk45 (MO_tick_59_w hV h hk45 n) x2 x3 x4 x5 x6 st
set_option maxRecDepth 100000 in
set_option maxHeartbeats 4000000 in
theorem MO_tick_45b_w {l : Launch} {D : va_G} {ad : Nat → Nat} {cA : Nat → ClassId} {tb : Nat} {E : zz_E} (hV : zz_ok (zm_V l D ad cA tb)) (h : zz_X (zm_V l D ad cA tb) E "FrameProcessorModel" prog_10_method_49_code 7 zt_T 2 43 (some .int)) {k45 : Int32 → Int32 → Int32 → zz_S → Option (Int32 × zz_S)} (hk45 : ∀ (x2 : Int32) (x3 : Int32) (x4 : Int32) (st : zz_S), zz_Z (zm_V l D ad cA tb) E 7 0 0 (zz_q (zm_V l D ad cA tb) E zz_ji) (k45 x2 x3 x4 st) 45 [(0, .ref (ad 0)), (2, .int x2), (3, .int x3), (4, .int x4)] [] st) (x2 : Int32) (x3 : Int32) (x4 : Int32) (st : zz_S) : zz_Z (zm_V l D ad cA tb) E 7 0 0 (zz_q (zm_V l D ad cA tb) E zz_ji) (MO_tick_45b k45 x2 x3 x4 st) 45 [(0, .ref (ad 0)), (2, .int x2), (3, .int x3), (4, .int x4)] [] st := by
  unfold MO_tick_45b
  refine zz_iload h dMO_tick_45 rfl ?_
  refine zz_if_eq h 215 dMO_tick_47 rfl ?_ ?_
  · refine zz_iload_n h dMO_tick_215 rfl ?_
    exact zz_iret h dMO_tick_216
  · refine zz_iload_n h dMO_tick_50 rfl ?_
    refine zz_istore h dMO_tick_51 (Nat.le_of_ble_eq_true rfl) ?_
    refine zz_iconst (v := 0) h dMO_tick_53 zz_li_0 ?_
    refine zz_istore h dMO_tick_54 (Nat.le_of_ble_eq_true rfl) ?_
    refine zz_iconst (v := 0) h dMO_tick_56 zz_li_0 ?_
    refine zz_istore h dMO_tick_57 (Nat.le_of_ble_eq_true rfl) ?_
    exact zz_sub (MO_tick_59_w hV h hk45 _ _ _ _ _ _ _) rfl
theorem MO_tick_45_w {l : Launch} {D : va_G} {ad : Nat → Nat} {cA : Nat → ClassId} {tb : Nat} {E : zz_E} (hV : zz_ok (zm_V l D ad cA tb)) (h : zz_X (zm_V l D ad cA tb) E "FrameProcessorModel" prog_10_method_49_code 7 zt_T 2 43 (some .int)) : ∀ (n : Nat) (x2 : Int32) (x3 : Int32) (x4 : Int32) (st : zz_S), zz_Z (zm_V l D ad cA tb) E 7 0 0 (zz_q (zm_V l D ad cA tb) E zz_ji) (MO_tick_45 n x2 x3 x4 st) 45 [(0, .ref (ad 0)), (2, .int x2), (3, .int x3), (4, .int x4)] [] st
  | 0, _, _, _, _ => zz_none
  | n + 1, x2, x3, x4, st => MO_tick_45b_w hV h (MO_tick_45_w hV h n) x2 x3 x4 st
set_option maxRecDepth 100000 in
set_option maxHeartbeats 4000000 in
theorem MO_tick_43_w {l : Launch} {D : va_G} {ad : Nat → Nat} {cA : Nat → ClassId} {tb : Nat} {E : zz_E} (hV : zz_ok (zm_V l D ad cA tb)) (h : zz_X (zm_V l D ad cA tb) E "FrameProcessorModel" prog_10_method_49_code 7 zt_T 2 43 (some .int)) (x2 : Int32) (x3 : Int32) (y0 : Int32) (st : zz_S) : zz_Z (zm_V l D ad cA tb) E 7 0 0 (zz_q (zm_V l D ad cA tb) E zz_ji) (MO_tick_43 x2 x3 y0 st) 43 [(0, .ref (ad 0)), (2, .int x2), (3, .int x3)] [.int y0] st := by
  unfold MO_tick_43
  refine zz_istore h dMO_tick_43 (Nat.le_of_ble_eq_true rfl) ?_
  exact zz_sub (MO_tick_45_w hV h _ _ _ _ _) rfl
set_option maxRecDepth 100000 in
set_option maxHeartbeats 4000000 in
theorem MO_tick_31_w {l : Launch} {D : va_G} {ad : Nat → Nat} {cA : Nat → ClassId} {tb : Nat} {E : zz_E} (hV : zz_ok (zm_V l D ad cA tb)) (h : zz_X (zm_V l D ad cA tb) E "FrameProcessorModel" prog_10_method_49_code 7 zt_T 2 43 (some .int)) (y0 : Int32) (st : zz_S) : zz_Z (zm_V l D ad cA tb) E 7 0 0 (zz_q (zm_V l D ad cA tb) E zz_ji) (MO_tick_31 y0 st) 31 [(0, .ref (ad 0))] [.int y0] st := by
  unfold MO_tick_31
  refine zz_istore_n h dMO_tick_31 (Nat.le_of_ble_eq_true rfl) ?_
  refine zz_iconst (v := 0) h dMO_tick_32 zz_li_0 ?_
  refine zz_istore_n h dMO_tick_33 (Nat.le_of_ble_eq_true rfl) ?_
  refine zz_iload_n h dMO_tick_34 rfl ?_
  refine zz_if_le h 42 dMO_tick_35 rfl ?_ ?_
  · refine zz_iconst (v := 0) h dMO_tick_42 zz_li_0 ?_
    exact zz_sub (MO_tick_43_w hV h _ _ _ _) rfl
  · refine zz_iconst (v := 1) h dMO_tick_38 zz_li_1 ?_
    refine zz_goto h 43 dMO_tick_39 rfl ?_
    exact zz_sub (MO_tick_43_w hV h _ _ _ _) rfl
set_option maxRecDepth 100000 in
set_option maxHeartbeats 4000000 in
theorem MO_tick_16_w {l : Launch} {D : va_G} {ad : Nat → Nat} {cA : Nat → ClassId} {tb : Nat} {E : zz_E} (hV : zz_ok (zm_V l D ad cA tb)) (h : zz_X (zm_V l D ad cA tb) E "FrameProcessorModel" prog_10_method_49_code 7 zt_T 2 43 (some .int)) (x1 : Int32) (y0 : Int32) (st : zz_S) : zz_Z (zm_V l D ad cA tb) E 7 0 0 (zz_q (zm_V l D ad cA tb) E zz_ji) (MO_tick_16 x1 y0 st) 16 [(0, .ref (ad 0)), (1, .int x1)] [.int y0, .ref (ad 0)] st := by
  unfold MO_tick_16
  refine zm_p_MO_thrown h zi_MO zf_MO_63 dMO_tick_16 (fun s_5 => ?_)
  refine zz_aload_n h dMO_tick_19 rfl ?_
  refine zm_g_MO_thrown h zi_MO zf_MO_63 dMO_tick_20 ?_
  refine zz_if_le h 30 dMO_tick_23 rfl ?_ ?_
  · refine zz_iload_n h dMO_tick_30 rfl ?_
    exact zz_sub (MO_tick_31_w hV h _ _) rfl
  · refine zz_iconst (v := 0) h dMO_tick_26 zz_li_0 ?_
    refine zz_goto h 31 dMO_tick_27 rfl ?_
    exact zz_sub (MO_tick_31_w hV h _ _) rfl
set_option maxRecDepth 100000 in
set_option maxHeartbeats 4000000 in
theorem MO_tick_11_w {l : Launch} {D : va_G} {ad : Nat → Nat} {cA : Nat → ClassId} {tb : Nat} {E : zz_E} (hV : zz_ok (zm_V l D ad cA tb)) (h : zz_X (zm_V l D ad cA tb) E "FrameProcessorModel" prog_10_method_49_code 7 zt_T 2 43 (some .int)) (x1 : Int32) (st : zz_S) : zz_Z (zm_V l D ad cA tb) E 7 0 0 (zz_q (zm_V l D ad cA tb) E zz_ji) (MO_tick_11 x1 st) 11 [(0, .ref (ad 0)), (1, .int x1)] [.ref (ad 0)] st := by
  unfold MO_tick_11
  refine zz_iconst (v := 1) h dMO_tick_11 zz_li_1 ?_
  refine zz_goto h 16 dMO_tick_12 rfl ?_
  exact zz_sub (MO_tick_16_w hV h _ _ _) rfl
set_option maxRecDepth 100000 in
set_option maxHeartbeats 4000000 in
theorem MO_tick_w {l : Launch} {D : va_G} {ad : Nat → Nat} {cA : Nat → ClassId} {tb : Nat} {E : zz_E} (hV : zz_ok (zm_V l D ad cA tb)) (h : zz_X (zm_V l D ad cA tb) E "FrameProcessorModel" prog_10_method_49_code 7 zt_T 2 43 (some .int)) (x1 : Int32) (st : zz_S) : zz_Z (zm_V l D ad cA tb) E 7 0 0 (zz_q (zm_V l D ad cA tb) E zz_ji) (MO_tick_f x1 st) 0 [(0, .ref (ad 0)), (1, .int x1)] [] st := by
  unfold MO_tick_f
  refine zz_aload_n h dMO_tick_0 rfl ?_
  refine zz_iload_n h dMO_tick_1 rfl ?_
  refine zz_if_lt h 11 dMO_tick_2 rfl ?_ ?_
  · exact zz_sub (MO_tick_11_w hV h _ _) rfl
  · refine zz_iload_n h dMO_tick_5 rfl ?_
    refine zz_ldc (v := 100000) h dMO_tick_6 zc_MO_231 ?_
    refine zz_icmp_le h 15 dMO_tick_8 rfl ?_ ?_
    · refine zz_iconst (v := 0) h dMO_tick_15 zz_li_0 ?_
      exact zz_sub (MO_tick_16_w hV h _ _ _) rfl
    · exact zz_sub (MO_tick_11_w hV h _ _) rfl
theorem MO_tick_c {l : Launch} {D : va_G} {ad : Nat → Nat} {cA : Nat → ClassId} {tb : Nat} (hV : zz_ok (zm_V l D ad cA tb)) (x1 : Int32) (st : zz_S) : zz_C (zm_V l D ad cA tb) yMO_tick (Cond.code yMO_tick prog_10_method_49_code 7 (some .int) :: zt_T) { frames := 2, cells := 0, slots := 0, locals := 43 } zz_ji [.ref (ad 0), .int x1] st (MO_tick_f x1 st) := zz_met hV (by decide +kernel) rfl (Nat.le_of_ble_eq_true rfl) rfl (fun E h => MO_tick_w hV h x1 st)
def MO_running_f (st : zz_S) : Option (Int32 × zz_S) := (zz_nm (zz_sp st 0 (0 : Int32)) fun s_1 => (zz_bd (MO_first_f s_1) fun r_3 s_2 => (some (r_3, s_2))))
set_option maxRecDepth 100000 in
set_option maxHeartbeats 4000000 in
theorem MO_running_w {l : Launch} {D : va_G} {ad : Nat → Nat} {cA : Nat → ClassId} {tb : Nat} {E : zz_E} (hV : zz_ok (zm_V l D ad cA tb)) (h : zz_X (zm_V l D ad cA tb) E "FrameProcessorModel" prog_10_method_50_code 1 zt_T 1 22 (some .int)) (st : zz_S) : zz_Z (zm_V l D ad cA tb) E 1 0 0 (zz_q (zm_V l D ad cA tb) E zz_ji) (MO_running_f  st) 0 [(0, .ref (ad 0))] [] st := by
  unfold MO_running_f
  refine zz_aload_n h dMO_running_0 rfl ?_
  refine zz_iconst (v := 0) h dMO_running_1 zz_li_0 ?_
  refine zm_p_MO_thrown h zi_MO zf_MO_63 dMO_running_2 (fun s_1 => ?_)
  refine zz_aload_n h dMO_running_5 rfl ?_
  refine zz_callV0i h 0 rfl rfl (MO_first_c hV _) MO_first_k zm_MO_222 rfl rfl ⟨Nat.le_of_ble_eq_true rfl, Nat.le_of_ble_eq_true rfl⟩ (Nat.le_of_ble_eq_true rfl) dMO_running_6 (fun r_3 s_2 => ?_)
  exact zz_iret h dMO_running_9
theorem MO_running_c {l : Launch} {D : va_G} {ad : Nat → Nat} {cA : Nat → ClassId} {tb : Nat} (hV : zz_ok (zm_V l D ad cA tb)) (st : zz_S) : zz_C (zm_V l D ad cA tb) yMO_running (Cond.code yMO_running prog_10_method_50_code 1 (some .int) :: zt_T) { frames := 1, cells := 0, slots := 0, locals := 22 } zz_ji [.ref (ad 0)] st (MO_running_f  st) := zz_met hV (by decide +kernel) rfl (Nat.le_of_ble_eq_true rfl) rfl (fun E h => MO_running_w hV h  st)
def MO_process_211 (k169 : Int32 → Int32 → Int32 → zz_S → Option (Int32 × zz_S)) (x1 : Int32) (x5 : Int32) (y0 : Int32) (y1 : Int32) (st : zz_S) : Option (Int32 × zz_S) := (zz_nm (y1 + y0) fun v_1 => (k169 x1 v_1 (x5 + (1 : Int32)) st))
def MO_process_210 (k169 : Int32 → Int32 → Int32 → zz_S → Option (Int32 × zz_S)) (x1 : Int32) (x5 : Int32) (y0 : Int32) (st : zz_S) : Option (Int32 × zz_S) := (MO_process_211 k169 x1 x5 (0 : Int32) y0 st)
def MO_process_169b (k169 : Int32 → Int32 → Int32 → zz_S → Option (Int32 × zz_S)) (x1 : Int32) (x4 : Int32) (x5 : Int32) (st : zz_S) : Option (Int32 × zz_S) := (if (6 : Int32) ≤ x5 then (some (x4, st)) else (zz_gd (zz_in x5 6) (if (zz_ag st 5 x5.toNatClampNeg) = (1 : Int32) then (zz_gd (zz_in x5 6) (zz_gd (zz_in x1 6) (if 0 ≤ (lg_cmp (zz_lg st 1 x5.toNatClampNeg) (zz_lg st 1 x1.toNatClampNeg)) then (MO_process_210 k169 x1 x5 x4 st) else (MO_process_211 k169 x1 x5 (1 : Int32) x4 st)))) else (MO_process_210 k169 x1 x5 x4 st))))
def MO_process_169 : Nat → Int32 → Int32 → Int32 → zz_S → Option (Int32 × zz_S)
  | 0 => fun _ _ _ _ => none
  | n + 1 => MO_process_169b (MO_process_169 n)
def MO_process_102 (x1 : Int32) (st : zz_S) : Option (Int32 × zz_S) := (zz_gd (zz_in x1 6) (some ((zz_ag st 10 x1.toNatClampNeg), st)))
def MO_process_f (x1 : Int32) (x2 : Int32) (st : zz_S) : Option (Int32 × zz_S) := (zz_nm (zz_sp st 0 (0 : Int32)) fun s_2 => (zz_bd (MO_isNumber_f x1 (6 : Int32) s_2) fun r_4 s_3 => (if r_4 = 0 then (some ((-1 : Int32), s_3)) else (if x2 < 0 then (some ((-1 : Int32), s_3)) else (if x2 ≤ (7 : Int32) then (zz_gd (zz_in x1 6) (zz_nm (zz_ag s_3 5 x1.toNatClampNeg) fun v_5 => (if x2 = 0 then (some (v_5, s_3)) else (if (4 : Int32) ≤ x2 then (if x2 = (4 : Int32) then (if v_5 = (2 : Int32) then (MO_process_102 x1 s_3) else (if v_5 = (3 : Int32) then (MO_process_102 x1 s_3) else (some ((-1 : Int32), s_3)))) else (if x2 = (5 : Int32) then (if v_5 = (3 : Int32) then (zz_gd (zz_in x1 6) (some ((zz_ag s_3 11 x1.toNatClampNeg), s_3))) else (some ((0 : Int32), s_3))) else (if x2 = (6 : Int32) then (if v_5 = (4 : Int32) then (zz_gd (zz_in x1 6) (some ((zz_ag s_3 12 x1.toNatClampNeg), s_3))) else (some ((0 : Int32), s_3))) else (if v_5 = (1 : Int32) then (MO_process_169 10 x1 (0 : Int32) (0 : Int32) s_3) else (some ((-1 : Int32), s_3)))))) else (if v_5 = 0 then (some ((0 : Int32), s_3)) else (if x2 = (1 : Int32) then (zz_gd (zz_in x1 6) (some ((zz_ag s_3 6 x1.toNatClampNeg), s_3))) else (if x2 = (2 : Int32) then (zz_gd (zz_in x1 6) (some ((zz_ag s_3 7 x1.toNatClampNeg), s_3))) else (zz_gd (zz_in x1 6) (some ((zz_ag s_3 8 x1.toNatClampNeg), s_3)))))))))) else (some ((-1 : Int32), s_3)))))))
set_option maxRecDepth 100000 in
set_option maxHeartbeats 4000000 in
theorem MO_process_211_w {l : Launch} {D : va_G} {ad : Nat → Nat} {cA : Nat → ClassId} {tb : Nat} {E : zz_E} (hV : zz_ok (zm_V l D ad cA tb)) (h : zz_X (zm_V l D ad cA tb) E "FrameProcessorModel" prog_10_method_51_code 6 zt_T 1 21 (some .int)) {k169 : Int32 → Int32 → Int32 → zz_S → Option (Int32 × zz_S)} (hk169 : ∀ (x1 : Int32) (x4 : Int32) (x5 : Int32) (st : zz_S), zz_Z (zm_V l D ad cA tb) E 6 0 0 (zz_q (zm_V l D ad cA tb) E zz_ji) (k169 x1 x4 x5 st) 169 [(0, .ref (ad 0)), (1, .int x1), (4, .int x4), (5, .int x5)] [] st) (x1 : Int32) (x5 : Int32) (y0 : Int32) (y1 : Int32) (st : zz_S) : zz_Z (zm_V l D ad cA tb) E 6 0 0 (zz_q (zm_V l D ad cA tb) E zz_ji) (MO_process_211 k169 x1 x5 y0 y1 st) 211 [(0, .ref (ad 0)), (1, .int x1), (5, .int x5)] [.int y0, .int y1] st := by
  unfold MO_process_211
  refine zz_iadd h dMO_process_211 ?_
  refine zz_topi (fun v_1 => ?_)
  refine zz_istore h dMO_process_212 (Nat.le_of_ble_eq_true rfl) ?_
  refine zz_iinc h (1 : Int32) dMO_process_214 zz_li_1 rfl (Nat.le_of_ble_eq_true rfl) ?_
  refine zz_goto h 169 dMO_process_217 rfl ?_
  exact zz_sub (hk169 _ _ _ _) rfl
set_option maxRecDepth 100000 in
set_option maxHeartbeats 4000000 in
theorem MO_process_210_w {l : Launch} {D : va_G} {ad : Nat → Nat} {cA : Nat → ClassId} {tb : Nat} {E : zz_E} (hV : zz_ok (zm_V l D ad cA tb)) (h : zz_X (zm_V l D ad cA tb) E "FrameProcessorModel" prog_10_method_51_code 6 zt_T 1 21 (some .int)) {k169 : Int32 → Int32 → Int32 → zz_S → Option (Int32 × zz_S)} (hk169 : ∀ (x1 : Int32) (x4 : Int32) (x5 : Int32) (st : zz_S), zz_Z (zm_V l D ad cA tb) E 6 0 0 (zz_q (zm_V l D ad cA tb) E zz_ji) (k169 x1 x4 x5 st) 169 [(0, .ref (ad 0)), (1, .int x1), (4, .int x4), (5, .int x5)] [] st) (x1 : Int32) (x5 : Int32) (y0 : Int32) (st : zz_S) : zz_Z (zm_V l D ad cA tb) E 6 0 0 (zz_q (zm_V l D ad cA tb) E zz_ji) (MO_process_210 k169 x1 x5 y0 st) 210 [(0, .ref (ad 0)), (1, .int x1), (5, .int x5)] [.int y0] st := by
  unfold MO_process_210
  refine zz_iconst (v := 0) h dMO_process_210 zz_li_0 ?_
  exact zz_sub (MO_process_211_w hV h hk169 _ _ _ _ _) rfl
set_option maxRecDepth 100000 in
set_option maxHeartbeats 4000000 in
theorem MO_process_169b_w {l : Launch} {D : va_G} {ad : Nat → Nat} {cA : Nat → ClassId} {tb : Nat} {E : zz_E} (hV : zz_ok (zm_V l D ad cA tb)) (h : zz_X (zm_V l D ad cA tb) E "FrameProcessorModel" prog_10_method_51_code 6 zt_T 1 21 (some .int)) {k169 : Int32 → Int32 → Int32 → zz_S → Option (Int32 × zz_S)} (hk169 : ∀ (x1 : Int32) (x4 : Int32) (x5 : Int32) (st : zz_S), zz_Z (zm_V l D ad cA tb) E 6 0 0 (zz_q (zm_V l D ad cA tb) E zz_ji) (k169 x1 x4 x5 st) 169 [(0, .ref (ad 0)), (1, .int x1), (4, .int x4), (5, .int x5)] [] st) (x1 : Int32) (x4 : Int32) (x5 : Int32) (st : zz_S) : zz_Z (zm_V l D ad cA tb) E 6 0 0 (zz_q (zm_V l D ad cA tb) E zz_ji) (MO_process_169b k169 x1 x4 x5 st) 169 [(0, .ref (ad 0)), (1, .int x1), (4, .int x4), (5, .int x5)] [] st := by
  unfold MO_process_169b
  refine zz_iload h dMO_process_169 rfl ?_
  refine zz_bipush (v := 6) h dMO_process_171 zz_lb_6 ?_
  refine zz_icmp_ge h 220 dMO_process_173 rfl ?_ ?_
  · refine zz_iload h dMO_process_220 rfl ?_
    exact zz_iret h dMO_process_222
  · refine zz_iload h dMO_process_176 rfl ?_
    refine zz_aload_n h dMO_process_178 rfl ?_
    refine zm_g_MO_state h zi_MO zf_MO_23 dMO_process_179 ?_
    refine zz_iload h dMO_process_182 rfl ?_
    refine zm_ld_5 h dMO_process_184 ?_
    refine zz_iconst (v := 1) h dMO_process_185 zz_li_1 ?_
    refine zz_icmp_ne h 210 dMO_process_186 rfl ?_ ?_
    · refine zz_aload_n h dMO_process_189 rfl ?_
      refine zm_g_MO_since h zi_MO zf_MO_47 dMO_process_190 ?_
      refine zz_iload h dMO_process_193 rfl ?_
      refine zm_ld_13 h dMO_process_195 ?_
      refine zz_aload_n h dMO_process_196 rfl ?_
      refine zm_g_MO_since h zi_MO zf_MO_47 dMO_process_197 ?_
      refine zz_iload_n h dMO_process_200 rfl ?_
      refine zm_ld_13 h dMO_process_201 ?_
      refine zz_lcmp h dMO_process_202 ?_
      refine zz_if_ge h 210 dMO_process_203 rfl ?_ ?_
      · exact zz_sub (MO_process_210_w hV h hk169 _ _ _ _) rfl
      · refine zz_iconst (v := 1) h dMO_process_206 zz_li_1 ?_
        refine zz_goto h 211 dMO_process_207 rfl ?_
        exact zz_sub (MO_process_211_w hV h hk169 _ _ _ _ _) rfl
    · exact zz_sub (MO_process_210_w hV h hk169 _ _ _ _) rfl
theorem MO_process_169_w {l : Launch} {D : va_G} {ad : Nat → Nat} {cA : Nat → ClassId} {tb : Nat} {E : zz_E} (hV : zz_ok (zm_V l D ad cA tb)) (h : zz_X (zm_V l D ad cA tb) E "FrameProcessorModel" prog_10_method_51_code 6 zt_T 1 21 (some .int)) : ∀ (n : Nat) (x1 : Int32) (x4 : Int32) (x5 : Int32) (st : zz_S), zz_Z (zm_V l D ad cA tb) E 6 0 0 (zz_q (zm_V l D ad cA tb) E zz_ji) (MO_process_169 n x1 x4 x5 st) 169 [(0, .ref (ad 0)), (1, .int x1), (4, .int x4), (5, .int x5)] [] st
  | 0, _, _, _, _ => zz_none
  | n + 1, x1, x4, x5, st => MO_process_169b_w hV h (MO_process_169_w hV h n) x1 x4 x5 st
set_option maxRecDepth 100000 in
set_option maxHeartbeats 4000000 in
theorem MO_process_102_w {l : Launch} {D : va_G} {ad : Nat → Nat} {cA : Nat → ClassId} {tb : Nat} {E : zz_E} (hV : zz_ok (zm_V l D ad cA tb)) (h : zz_X (zm_V l D ad cA tb) E "FrameProcessorModel" prog_10_method_51_code 6 zt_T 1 21 (some .int)) (x1 : Int32) (st : zz_S) : zz_Z (zm_V l D ad cA tb) E 6 0 0 (zz_q (zm_V l D ad cA tb) E zz_ji) (MO_process_102 x1 st) 102 [(0, .ref (ad 0)), (1, .int x1)] [] st := by
  unfold MO_process_102
  refine zz_aload_n h dMO_process_102 rfl ?_
  refine zm_g_MO_where h zi_MO zf_MO_38 dMO_process_103 ?_
  refine zz_iload_n h dMO_process_106 rfl ?_
  refine zm_ld_10 h dMO_process_107 ?_
  refine zz_goto h 112 dMO_process_108 rfl ?_
  exact zz_iret h dMO_process_112
set_option maxRecDepth 100000 in
set_option maxHeartbeats 4000000 in
theorem MO_process_w {l : Launch} {D : va_G} {ad : Nat → Nat} {cA : Nat → ClassId} {tb : Nat} {E : zz_E} (hV : zz_ok (zm_V l D ad cA tb)) (h : zz_X (zm_V l D ad cA tb) E "FrameProcessorModel" prog_10_method_51_code 6 zt_T 1 21 (some .int)) (x1 : Int32) (x2 : Int32) (st : zz_S) : zz_Z (zm_V l D ad cA tb) E 6 0 0 (zz_q (zm_V l D ad cA tb) E zz_ji) (MO_process_f x1 x2 st) 0 [(0, .ref (ad 0)), (1, .int x1), (2, .int x2)] [] st := by
  unfold MO_process_f
  refine zz_aload_n h dMO_process_0 rfl ?_
  refine zz_iconst (v := 0) h dMO_process_1 zz_li_0 ?_
  refine zm_p_MO_thrown h zi_MO zf_MO_63 dMO_process_2 (fun s_2 => ?_)
  refine zz_iload_n h dMO_process_5 rfl ?_
  refine zz_bipush (v := 6) h dMO_process_6 zz_lb_6 ?_
  refine zz_callS2i h (MO_isNumber_c hV _ _ _) MO_isNumber_k zm_MO_228 rfl rfl ⟨Nat.le_of_ble_eq_true rfl, Nat.le_of_ble_eq_true rfl⟩ (Nat.le_of_ble_eq_true rfl) dMO_process_8 (fun r_4 s_3 => ?_)
  refine zz_if_eq h 24 dMO_process_11 rfl ?_ ?_
  · refine zz_iconst (v := -1) h dMO_process_24 zz_li_m1 ?_
    exact zz_iret h dMO_process_25
  · refine zz_iload_n h dMO_process_14 rfl ?_
    refine zz_if_lt h 24 dMO_process_15 rfl ?_ ?_
    · refine zz_iconst (v := -1) h dMO_process_24 zz_li_m1 ?_
      exact zz_iret h dMO_process_25
    · refine zz_iload_n h dMO_process_18 rfl ?_
      refine zz_bipush (v := 7) h dMO_process_19 zz_lb_7 ?_
      refine zz_icmp_le h 26 dMO_process_21 rfl ?_ ?_
      · refine zz_aload_n h dMO_process_26 rfl ?_
        refine zm_g_MO_state h zi_MO zf_MO_23 dMO_process_27 ?_
        refine zz_iload_n h dMO_process_30 rfl ?_
        refine zm_ld_5 h dMO_process_31 ?_
        refine zz_topi (fun v_5 => ?_)
        refine zz_istore_n h dMO_process_32 (Nat.le_of_ble_eq_true rfl) ?_
        refine zz_iload_n h dMO_process_33 rfl ?_
        refine zz_if_ne h 39 dMO_process_34 rfl ?_ ?_
        · refine zz_iload_n h dMO_process_37 rfl ?_
          exact zz_iret h dMO_process_38
        · refine zz_iload_n h dMO_process_39 rfl ?_
          refine zz_iconst (v := 4) h dMO_process_40 zz_li_4 ?_
          refine zz_icmp_ge h 87 dMO_process_41 rfl ?_ ?_
          · refine zz_iload_n h dMO_process_87 rfl ?_
            refine zz_iconst (v := 4) h dMO_process_88 zz_li_4 ?_
            refine zz_icmp_ne h 113 dMO_process_89 rfl ?_ ?_
            · refine zz_iload_n h dMO_process_92 rfl ?_
              refine zz_iconst (v := 2) h dMO_process_93 zz_li_2 ?_
              refine zz_icmp_eq h 102 dMO_process_94 rfl ?_ ?_
              · exact zz_sub (MO_process_102_w hV h _ _) rfl
              · refine zz_iload_n h dMO_process_97 rfl ?_
                refine zz_iconst (v := 3) h dMO_process_98 zz_li_3 ?_
                refine zz_icmp_ne h 111 dMO_process_99 rfl ?_ ?_
                · exact zz_sub (MO_process_102_w hV h _ _) rfl
                · refine zz_iconst (v := -1) h dMO_process_111 zz_li_m1 ?_
                  exact zz_iret h dMO_process_112
            · refine zz_iload_n h dMO_process_113 rfl ?_
              refine zz_iconst (v := 5) h dMO_process_114 zz_li_5 ?_
              refine zz_icmp_ne h 134 dMO_process_115 rfl ?_ ?_
              · refine zz_iload_n h dMO_process_118 rfl ?_
                refine zz_iconst (v := 3) h dMO_process_119 zz_li_3 ?_
                refine zz_icmp_ne h 132 dMO_process_120 rfl ?_ ?_
                · refine zz_aload_n h dMO_process_123 rfl ?_
                  refine zm_g_MO_timeout h zi_MO zf_MO_41 dMO_process_124 ?_
                  refine zz_iload_n h dMO_process_127 rfl ?_
                  refine zm_ld_11 h dMO_process_128 ?_
                  refine zz_goto h 133 dMO_process_129 rfl ?_
                  exact zz_iret h dMO_process_133
                · refine zz_iconst (v := 0) h dMO_process_132 zz_li_0 ?_
                  exact zz_iret h dMO_process_133
              · refine zz_iload_n h dMO_process_134 rfl ?_
                refine zz_bipush (v := 6) h dMO_process_135 zz_lb_6 ?_
                refine zz_icmp_ne h 156 dMO_process_137 rfl ?_ ?_
                · refine zz_iload_n h dMO_process_140 rfl ?_
                  refine zz_iconst (v := 4) h dMO_process_141 zz_li_4 ?_
                  refine zz_icmp_ne h 154 dMO_process_142 rfl ?_ ?_
                  · refine zz_aload_n h dMO_process_145 rfl ?_
                    refine zm_g_MO_faults h zi_MO zf_MO_44 dMO_process_146 ?_
                    refine zz_iload_n h dMO_process_149 rfl ?_
                    refine zm_ld_12 h dMO_process_150 ?_
                    refine zz_goto h 155 dMO_process_151 rfl ?_
                    exact zz_iret h dMO_process_155
                  · refine zz_iconst (v := 0) h dMO_process_154 zz_li_0 ?_
                    exact zz_iret h dMO_process_155
                · refine zz_iload_n h dMO_process_156 rfl ?_
                  refine zz_iconst (v := 1) h dMO_process_157 zz_li_1 ?_
                  refine zz_icmp_eq h 163 dMO_process_158 rfl ?_ ?_
                  · refine zz_iconst (v := 0) h dMO_process_163 zz_li_0 ?_
                    refine zz_istore h dMO_process_164 (Nat.le_of_ble_eq_true rfl) ?_
                    refine zz_iconst (v := 0) h dMO_process_166 zz_li_0 ?_
                    refine zz_istore h dMO_process_167 (Nat.le_of_ble_eq_true rfl) ?_
                    exact zz_sub (MO_process_169_w hV h _ _ _ _ _) rfl
                  · refine zz_iconst (v := -1) h dMO_process_161 zz_li_m1 ?_
                    exact zz_iret h dMO_process_162
          · refine zz_iload_n h dMO_process_44 rfl ?_
            refine zz_if_ne h 52 dMO_process_45 rfl ?_ ?_
            · refine zz_iconst (v := 0) h dMO_process_48 zz_li_0 ?_
              refine zz_goto h 86 dMO_process_49 rfl ?_
              exact zz_iret h dMO_process_86
            · refine zz_iload_n h dMO_process_52 rfl ?_
              refine zz_iconst (v := 1) h dMO_process_53 zz_li_1 ?_
              refine zz_icmp_ne h 66 dMO_process_54 rfl ?_ ?_
              · refine zz_aload_n h dMO_process_57 rfl ?_
                refine zm_g_MO_priority h zi_MO zf_MO_26 dMO_process_58 ?_
                refine zz_iload_n h dMO_process_61 rfl ?_
                refine zm_ld_6 h dMO_process_62 ?_
                refine zz_goto h 86 dMO_process_63 rfl ?_
                exact zz_iret h dMO_process_86
              · refine zz_iload_n h dMO_process_66 rfl ?_
                refine zz_iconst (v := 2) h dMO_process_67 zz_li_2 ?_
                refine zz_icmp_ne h 80 dMO_process_68 rfl ?_ ?_
                · refine zz_aload_n h dMO_process_71 rfl ?_
                  refine zm_g_MO_frame h zi_MO zf_MO_29 dMO_process_72 ?_
                  refine zz_iload_n h dMO_process_75 rfl ?_
                  refine zm_ld_7 h dMO_process_76 ?_
                  refine zz_goto h 86 dMO_process_77 rfl ?_
                  exact zz_iret h dMO_process_86
                · refine zz_aload_n h dMO_process_80 rfl ?_
                  refine zm_g_MO_size h zi_MO zf_MO_32 dMO_process_81 ?_
                  refine zz_iload_n h dMO_process_84 rfl ?_
                  refine zm_ld_8 h dMO_process_85 ?_
                  exact zz_iret h dMO_process_86
      · refine zz_iconst (v := -1) h dMO_process_24 zz_li_m1 ?_
        exact zz_iret h dMO_process_25
theorem MO_process_c {l : Launch} {D : va_G} {ad : Nat → Nat} {cA : Nat → ClassId} {tb : Nat} (hV : zz_ok (zm_V l D ad cA tb)) (x1 : Int32) (x2 : Int32) (st : zz_S) : zz_C (zm_V l D ad cA tb) yMO_process (Cond.code yMO_process prog_10_method_51_code 6 (some .int) :: zt_T) { frames := 1, cells := 0, slots := 0, locals := 21 } zz_ji [.ref (ad 0), .int x1, .int x2] st (MO_process_f x1 x2 st) := zz_met hV (by decide +kernel) rfl (Nat.le_of_ble_eq_true rfl) rfl (fun E h => MO_process_w hV h x1 x2 st)
