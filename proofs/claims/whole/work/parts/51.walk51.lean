def FP_map_27 (x1 : Int32) (x2 : Int32) (st : zz_S) : Option ((Unit ⊕ Nat) × zz_S) := (zz_bd (ME_assign_f x1 x2 st) fun _ s_1 => (some (Sum.inl (), s_1)))
def FP_map_19 (st : zz_S) : Option ((Unit ⊕ Nat) × zz_S) := (some (Sum.inr 0, st))
def FP_map_f (x1 : Int32) (x2 : Int32) (st : zz_S) : Option ((Unit ⊕ Nat) × zz_S) := (zz_bd (ME_isPage_f x1 st) fun r_3 s_2 => (if r_3 = 0 then (FP_map_19 s_2) else (if x2 = (-1 : Int32) then (FP_map_27 x1 x2 s_2) else (zz_bd (ME_isRealPage_f x2 s_2) fun r_5 s_4 => (if r_5 = 0 then (FP_map_19 s_4) else (FP_map_27 x1 x2 s_4))))))
set_option maxRecDepth 100000 in
set_option maxHeartbeats 4000000 in
theorem FP_map_27_w {l : Launch} {D : va_G} {ad : Nat → Nat} {cA : Nat → ClassId} {tb : Nat} {E : zz_E} (hV : zz_ok (zc_V l D ad cA tb)) (h : zz_X (zc_V l D ad cA tb) E "FrameProcessor" prog_1_method_2_code 3 zt_T 6 81 none) (hT : zz_XT (zc_V l D ad cA tb) E) (x1 : Int32) (x2 : Int32) (st : zz_S) : zz_Z (zc_V l D ad cA tb) E 3 0 0 (zz_t (zc_V l D ad cA tb) E zz_jv zx_c) (FP_map_27 x1 x2 st) 27 [(0, .ref (ad 0)), (1, .int x1), (2, .int x2)] [] st := by
  unfold FP_map_27
  refine zz_aload_n h dFP_map_27 rfl ?_
  refine zc_g_FP_memory h zi_FP zf_FP_10 dFP_map_28 ?_
  refine zz_iload_n h dFP_map_31 rfl ?_
  refine zz_iload_n h dFP_map_32 rfl ?_
  refine zz_callV2v h 1 rfl rfl (ME_assign_c hV _ _ _) ME_assign_k zm_FP_42 rfl rfl ⟨Nat.le_of_ble_eq_true rfl, Nat.le_of_ble_eq_true rfl⟩ (Nat.le_of_ble_eq_true rfl) dFP_map_33 (fun _ s_1 => ?_)
  exact zz_inl (zz_vret h dFP_map_36)
set_option maxRecDepth 100000 in
set_option maxHeartbeats 4000000 in
theorem FP_map_19_w {l : Launch} {D : va_G} {ad : Nat → Nat} {cA : Nat → ClassId} {tb : Nat} {E : zz_E} (hV : zz_ok (zc_V l D ad cA tb)) (h : zz_X (zc_V l D ad cA tb) E "FrameProcessor" prog_1_method_2_code 3 zt_T 6 81 none) (hT : zz_XT (zc_V l D ad cA tb) E) (st : zz_S) : zz_Z (zc_V l D ad cA tb) E 3 0 0 (zz_t (zc_V l D ad cA tb) E zz_jv zx_c) (FP_map_19  st) 19 [] [] st := by
  unfold FP_map_19
  exact zz_thr h hT 0 rfl (by decide +kernel) (by decide +kernel) zt_good zc_th0 (by decide) (by decide) dFP_map_19 dFP_map_22 dFP_map_23 dFP_map_26
set_option maxRecDepth 100000 in
set_option maxHeartbeats 4000000 in
theorem FP_map_w {l : Launch} {D : va_G} {ad : Nat → Nat} {cA : Nat → ClassId} {tb : Nat} {E : zz_E} (hV : zz_ok (zc_V l D ad cA tb)) (h : zz_X (zc_V l D ad cA tb) E "FrameProcessor" prog_1_method_2_code 3 zt_T 6 81 none) (hT : zz_XT (zc_V l D ad cA tb) E) (x1 : Int32) (x2 : Int32) (st : zz_S) : zz_Z (zc_V l D ad cA tb) E 3 0 0 (zz_t (zc_V l D ad cA tb) E zz_jv zx_c) (FP_map_f x1 x2 st) 0 [(0, .ref (ad 0)), (1, .int x1), (2, .int x2)] [] st := by
  unfold FP_map_f
  refine zz_iload_n h dFP_map_0 rfl ?_
  refine zz_callS1i h (ME_isPage_c hV _ _) ME_isPage_k zm_FP_32 rfl rfl ⟨Nat.le_of_ble_eq_true rfl, Nat.le_of_ble_eq_true rfl⟩ (Nat.le_of_ble_eq_true rfl) dFP_map_1 (fun r_3 s_2 => ?_)
  refine zz_if_eq h 19 dFP_map_4 rfl ?_ ?_
  · exact zz_sub (FP_map_19_w hV h hT  _) rfl
  · refine zz_iload_n h dFP_map_7 rfl ?_
    refine zz_iconst (v := -1) h dFP_map_8 zz_li_m1 ?_
    refine zz_icmp_eq h 27 dFP_map_9 rfl ?_ ?_
    · exact zz_sub (FP_map_27_w hV h hT _ _ _) rfl
    · refine zz_iload_n h dFP_map_12 rfl ?_
      refine zz_callS1i h (ME_isRealPage_c hV _ _) ME_isRealPage_k zm_FP_36 rfl rfl ⟨Nat.le_of_ble_eq_true rfl, Nat.le_of_ble_eq_true rfl⟩ (Nat.le_of_ble_eq_true rfl) dFP_map_13 (fun r_5 s_4 => ?_)
      refine zz_if_ne h 27 dFP_map_16 rfl ?_ ?_
      · exact zz_sub (FP_map_19_w hV h hT  _) rfl
      · exact zz_sub (FP_map_27_w hV h hT _ _ _) rfl
theorem FP_map_c {l : Launch} {D : va_G} {ad : Nat → Nat} {cA : Nat → ClassId} {tb : Nat} (hV : zz_ok (zc_V l D ad cA tb)) (htr : l.stackTraces = false) (x1 : Int32) (x2 : Int32) (st : zz_S) : zz_CT (zc_V l D ad cA tb) yFP_map (Cond.code yFP_map prog_1_method_2_code 3 none :: zt_T) { frames := 6, cells := 1, slots := 6, locals := 81 } 1 6 zz_jv zx_c [.ref (ad 0), .int x1, .int x2] st (FP_map_f x1 x2 st) := zz_metT hV htr (by decide +kernel) rfl (Nat.le_of_ble_eq_true rfl) rfl (by decide) (by decide) (fun E h hT => FP_map_w hV h hT x1 x2 st)
def FP_protect_f (x1 : Int32) (x2 : Int32) (st : zz_S) : Option ((Unit ⊕ Nat) × zz_S) := (zz_bd (ME_isPage_f x1 st) fun r_2 s_1 => (if r_2 = 0 then (some (Sum.inr 0, s_1)) else (zz_bd (ME_setGuarded_f x1 x2 s_1) fun _ s_3 => (some (Sum.inl (), s_3)))))
set_option maxRecDepth 100000 in
set_option maxHeartbeats 4000000 in
theorem FP_protect_w {l : Launch} {D : va_G} {ad : Nat → Nat} {cA : Nat → ClassId} {tb : Nat} {E : zz_E} (hV : zz_ok (zc_V l D ad cA tb)) (h : zz_X (zc_V l D ad cA tb) E "FrameProcessor" prog_1_method_3_code 3 zt_T 6 81 none) (hT : zz_XT (zc_V l D ad cA tb) E) (x1 : Int32) (x2 : Int32) (st : zz_S) : zz_Z (zc_V l D ad cA tb) E 3 0 0 (zz_t (zc_V l D ad cA tb) E zz_jv zx_c) (FP_protect_f x1 x2 st) 0 [(0, .ref (ad 0)), (1, .int x1), (2, .int x2)] [] st := by
  unfold FP_protect_f
  refine zz_iload_n h dFP_protect_0 rfl ?_
  refine zz_callS1i h (ME_isPage_c hV _ _) ME_isPage_k zm_FP_32 rfl rfl ⟨Nat.le_of_ble_eq_true rfl, Nat.le_of_ble_eq_true rfl⟩ (Nat.le_of_ble_eq_true rfl) dFP_protect_1 (fun r_2 s_1 => ?_)
  refine zz_if_ne h 15 dFP_protect_4 rfl ?_ ?_
  · exact zz_thr h hT 0 rfl (by decide +kernel) (by decide +kernel) zt_good zc_th0 (by decide) (by decide) dFP_protect_7 dFP_protect_10 dFP_protect_11 dFP_protect_14
  · refine zz_aload_n h dFP_protect_15 rfl ?_
    refine zc_g_FP_memory h zi_FP zf_FP_10 dFP_protect_16 ?_
    refine zz_iload_n h dFP_protect_19 rfl ?_
    refine zz_iload_n h dFP_protect_20 rfl ?_
    refine zz_callV2v h 1 rfl rfl (ME_setGuarded_c hV _ _ _) ME_setGuarded_k zm_FP_46 rfl rfl ⟨Nat.le_of_ble_eq_true rfl, Nat.le_of_ble_eq_true rfl⟩ (Nat.le_of_ble_eq_true rfl) dFP_protect_21 (fun _ s_3 => ?_)
    exact zz_inl (zz_vret h dFP_protect_24)
theorem FP_protect_c {l : Launch} {D : va_G} {ad : Nat → Nat} {cA : Nat → ClassId} {tb : Nat} (hV : zz_ok (zc_V l D ad cA tb)) (htr : l.stackTraces = false) (x1 : Int32) (x2 : Int32) (st : zz_S) : zz_CT (zc_V l D ad cA tb) yFP_protect (Cond.code yFP_protect prog_1_method_3_code 3 none :: zt_T) { frames := 6, cells := 1, slots := 6, locals := 81 } 1 6 zz_jv zx_c [.ref (ad 0), .int x1, .int x2] st (FP_protect_f x1 x2 st) := zz_metT hV htr (by decide +kernel) rfl (Nat.le_of_ble_eq_true rfl) rfl (by decide) (by decide) (fun E h hT => FP_protect_w hV h hT x1 x2 st)
def FP_noted_f (x1 : Int32) (st : zz_S) : Option ((Int32 ⊕ Nat) × zz_S) := (zz_bd (ME_isRealPage_f x1 st) fun r_2 s_1 => (if r_2 = 0 then (some (Sum.inr 0, s_1)) else (zz_bd (ME_takeNotes_f x1 s_1) fun r_4 s_3 => (some (Sum.inl r_4, s_3)))))
set_option maxRecDepth 100000 in
set_option maxHeartbeats 4000000 in
theorem FP_noted_w {l : Launch} {D : va_G} {ad : Nat → Nat} {cA : Nat → ClassId} {tb : Nat} {E : zz_E} (hV : zz_ok (zc_V l D ad cA tb)) (h : zz_X (zc_V l D ad cA tb) E "FrameProcessor" prog_1_method_4_code 2 zt_T 6 81 (some .int)) (hT : zz_XT (zc_V l D ad cA tb) E) (x1 : Int32) (st : zz_S) : zz_Z (zc_V l D ad cA tb) E 2 0 0 (zz_t (zc_V l D ad cA tb) E zz_ji zx_c) (FP_noted_f x1 st) 0 [(0, .ref (ad 0)), (1, .int x1)] [] st := by
  unfold FP_noted_f
  refine zz_iload_n h dFP_noted_0 rfl ?_
  refine zz_callS1i h (ME_isRealPage_c hV _ _) ME_isRealPage_k zm_FP_36 rfl rfl ⟨Nat.le_of_ble_eq_true rfl, Nat.le_of_ble_eq_true rfl⟩ (Nat.le_of_ble_eq_true rfl) dFP_noted_1 (fun r_2 s_1 => ?_)
  refine zz_if_ne h 15 dFP_noted_4 rfl ?_ ?_
  · exact zz_thr h hT 0 rfl (by decide +kernel) (by decide +kernel) zt_good zc_th0 (by decide) (by decide) dFP_noted_7 dFP_noted_10 dFP_noted_11 dFP_noted_14
  · refine zz_aload_n h dFP_noted_15 rfl ?_
    refine zc_g_FP_memory h zi_FP zf_FP_10 dFP_noted_16 ?_
    refine zz_iload_n h dFP_noted_19 rfl ?_
    refine zz_callV1i h 1 rfl rfl (ME_takeNotes_c hV _ _) ME_takeNotes_k zm_FP_50 rfl rfl ⟨Nat.le_of_ble_eq_true rfl, Nat.le_of_ble_eq_true rfl⟩ (Nat.le_of_ble_eq_true rfl) dFP_noted_20 (fun r_4 s_3 => ?_)
    exact zz_inl (zz_iret h dFP_noted_23)
theorem FP_noted_c {l : Launch} {D : va_G} {ad : Nat → Nat} {cA : Nat → ClassId} {tb : Nat} (hV : zz_ok (zc_V l D ad cA tb)) (htr : l.stackTraces = false) (x1 : Int32) (st : zz_S) : zz_CT (zc_V l D ad cA tb) yFP_noted (Cond.code yFP_noted prog_1_method_4_code 2 (some .int) :: zt_T) { frames := 6, cells := 1, slots := 6, locals := 81 } 1 6 zz_ji zx_c [.ref (ad 0), .int x1] st (FP_noted_f x1 st) := zz_metT hV htr (by decide +kernel) rfl (Nat.le_of_ble_eq_true rfl) rfl (by decide) (by decide) (fun E h hT => FP_noted_w hV h hT x1 st)
def FP_poke_f (x1 : Int32) (x2 : Int32) (st : zz_S) : Option ((Unit ⊕ Nat) × zz_S) := (zz_bd (ME_isAddress_f x1 st) fun r_2 s_1 => (if r_2 = 0 then (some (Sum.inr 0, s_1)) else (zz_bd (ME_isThere_f x1 s_1) fun r_4 s_3 => (if r_4 = 0 then (some (Sum.inr 1, s_3)) else (zz_bd (ME_put_f x1 x2 s_3) fun _ s_5 => (some (Sum.inl (), s_5)))))))
set_option maxRecDepth 100000 in
set_option maxHeartbeats 4000000 in
theorem FP_poke_w {l : Launch} {D : va_G} {ad : Nat → Nat} {cA : Nat → ClassId} {tb : Nat} {E : zz_E} (hV : zz_ok (zc_V l D ad cA tb)) (h : zz_X (zc_V l D ad cA tb) E "FrameProcessor" prog_1_method_5_code 3 zt_T 6 81 none) (hT : zz_XT (zc_V l D ad cA tb) E) (x1 : Int32) (x2 : Int32) (st : zz_S) : zz_Z (zc_V l D ad cA tb) E 3 0 0 (zz_t (zc_V l D ad cA tb) E zz_jv zx_c) (FP_poke_f x1 x2 st) 0 [(0, .ref (ad 0)), (1, .int x1), (2, .int x2)] [] st := by
  unfold FP_poke_f
  refine zz_iload_n h dFP_poke_0 rfl ?_
  refine zz_callS1i h (ME_isAddress_c hV _ _) ME_isAddress_k zm_FP_54 rfl rfl ⟨Nat.le_of_ble_eq_true rfl, Nat.le_of_ble_eq_true rfl⟩ (Nat.le_of_ble_eq_true rfl) dFP_poke_1 (fun r_2 s_1 => ?_)
  refine zz_if_ne h 15 dFP_poke_4 rfl ?_ ?_
  · exact zz_thr h hT 0 rfl (by decide +kernel) (by decide +kernel) zt_good zc_th0 (by decide) (by decide) dFP_poke_7 dFP_poke_10 dFP_poke_11 dFP_poke_14
  · refine zz_aload_n h dFP_poke_15 rfl ?_
    refine zc_g_FP_memory h zi_FP zf_FP_10 dFP_poke_16 ?_
    refine zz_iload_n h dFP_poke_19 rfl ?_
    refine zz_callV1i h 1 rfl rfl (ME_isThere_c hV _ _) ME_isThere_k zm_FP_57 rfl rfl ⟨Nat.le_of_ble_eq_true rfl, Nat.le_of_ble_eq_true rfl⟩ (Nat.le_of_ble_eq_true rfl) dFP_poke_20 (fun r_4 s_3 => ?_)
    refine zz_if_ne h 34 dFP_poke_23 rfl ?_ ?_
    · exact zz_thr h hT 1 rfl (by decide +kernel) (by decide +kernel) zt_good zc_th1 (by decide) (by decide) dFP_poke_26 dFP_poke_29 dFP_poke_30 dFP_poke_33
    · refine zz_aload_n h dFP_poke_34 rfl ?_
      refine zc_g_FP_memory h zi_FP zf_FP_10 dFP_poke_35 ?_
      refine zz_iload_n h dFP_poke_38 rfl ?_
      refine zz_iload_n h dFP_poke_39 rfl ?_
      refine zz_callV2v h 1 rfl rfl (ME_put_c hV _ _ _) ME_put_k zm_FP_63 rfl rfl ⟨Nat.le_of_ble_eq_true rfl, Nat.le_of_ble_eq_true rfl⟩ (Nat.le_of_ble_eq_true rfl) dFP_poke_40 (fun _ s_5 => ?_)
      exact zz_inl (zz_vret h dFP_poke_43)
theorem FP_poke_c {l : Launch} {D : va_G} {ad : Nat → Nat} {cA : Nat → ClassId} {tb : Nat} (hV : zz_ok (zc_V l D ad cA tb)) (htr : l.stackTraces = false) (x1 : Int32) (x2 : Int32) (st : zz_S) : zz_CT (zc_V l D ad cA tb) yFP_poke (Cond.code yFP_poke prog_1_method_5_code 3 none :: zt_T) { frames := 6, cells := 1, slots := 6, locals := 81 } 1 6 zz_jv zx_c [.ref (ad 0), .int x1, .int x2] st (FP_poke_f x1 x2 st) := zz_metT hV htr (by decide +kernel) rfl (Nat.le_of_ble_eq_true rfl) rfl (by decide) (by decide) (fun E h hT => FP_poke_w hV h hT x1 x2 st)
def FP_peek_f (x1 : Int32) (st : zz_S) : Option ((Int32 ⊕ Nat) × zz_S) := (zz_bd (ME_isAddress_f x1 st) fun r_2 s_1 => (if r_2 = 0 then (some (Sum.inr 0, s_1)) else (zz_bd (ME_isThere_f x1 s_1) fun r_4 s_3 => (if r_4 = 0 then (some (Sum.inr 1, s_3)) else (zz_bd (ME_look_f x1 s_3) fun r_6 s_5 => (some (Sum.inl r_6, s_5)))))))
set_option maxRecDepth 100000 in
set_option maxHeartbeats 4000000 in
theorem FP_peek_w {l : Launch} {D : va_G} {ad : Nat → Nat} {cA : Nat → ClassId} {tb : Nat} {E : zz_E} (hV : zz_ok (zc_V l D ad cA tb)) (h : zz_X (zc_V l D ad cA tb) E "FrameProcessor" prog_1_method_6_code 2 zt_T 6 81 (some .int)) (hT : zz_XT (zc_V l D ad cA tb) E) (x1 : Int32) (st : zz_S) : zz_Z (zc_V l D ad cA tb) E 2 0 0 (zz_t (zc_V l D ad cA tb) E zz_ji zx_c) (FP_peek_f x1 st) 0 [(0, .ref (ad 0)), (1, .int x1)] [] st := by
  unfold FP_peek_f
  refine zz_iload_n h dFP_peek_0 rfl ?_
  refine zz_callS1i h (ME_isAddress_c hV _ _) ME_isAddress_k zm_FP_54 rfl rfl ⟨Nat.le_of_ble_eq_true rfl, Nat.le_of_ble_eq_true rfl⟩ (Nat.le_of_ble_eq_true rfl) dFP_peek_1 (fun r_2 s_1 => ?_)
  refine zz_if_ne h 15 dFP_peek_4 rfl ?_ ?_
  · exact zz_thr h hT 0 rfl (by decide +kernel) (by decide +kernel) zt_good zc_th0 (by decide) (by decide) dFP_peek_7 dFP_peek_10 dFP_peek_11 dFP_peek_14
  · refine zz_aload_n h dFP_peek_15 rfl ?_
    refine zc_g_FP_memory h zi_FP zf_FP_10 dFP_peek_16 ?_
    refine zz_iload_n h dFP_peek_19 rfl ?_
    refine zz_callV1i h 1 rfl rfl (ME_isThere_c hV _ _) ME_isThere_k zm_FP_57 rfl rfl ⟨Nat.le_of_ble_eq_true rfl, Nat.le_of_ble_eq_true rfl⟩ (Nat.le_of_ble_eq_true rfl) dFP_peek_20 (fun r_4 s_3 => ?_)
    refine zz_if_ne h 34 dFP_peek_23 rfl ?_ ?_
    · exact zz_thr h hT 1 rfl (by decide +kernel) (by decide +kernel) zt_good zc_th1 (by decide) (by decide) dFP_peek_26 dFP_peek_29 dFP_peek_30 dFP_peek_33
    · refine zz_aload_n h dFP_peek_34 rfl ?_
      refine zc_g_FP_memory h zi_FP zf_FP_10 dFP_peek_35 ?_
      refine zz_iload_n h dFP_peek_38 rfl ?_
      refine zz_callV1i h 1 rfl rfl (ME_look_c hV _ _) ME_look_k zm_FP_66 rfl rfl ⟨Nat.le_of_ble_eq_true rfl, Nat.le_of_ble_eq_true rfl⟩ (Nat.le_of_ble_eq_true rfl) dFP_peek_39 (fun r_6 s_5 => ?_)
      exact zz_inl (zz_iret h dFP_peek_42)
theorem FP_peek_c {l : Launch} {D : va_G} {ad : Nat → Nat} {cA : Nat → ClassId} {tb : Nat} (hV : zz_ok (zc_V l D ad cA tb)) (htr : l.stackTraces = false) (x1 : Int32) (st : zz_S) : zz_CT (zc_V l D ad cA tb) yFP_peek (Cond.code yFP_peek prog_1_method_6_code 2 (some .int) :: zt_T) { frames := 6, cells := 1, slots := 6, locals := 81 } 1 6 zz_ji zx_c [.ref (ad 0), .int x1] st (FP_peek_f x1 st) := zz_metT hV htr (by decide +kernel) rfl (Nat.le_of_ble_eq_true rfl) rfl (by decide) (by decide) (fun E h hT => FP_peek_w hV h hT x1 st)
def FP_start_f (x1 : Int32) (x2 : Int32) (st : zz_S) : Option ((Int32 ⊕ Nat) × zz_S) := (zz_bd (PR_launch_f (x1 &&& (65535 : Int32)) x2 st) fun r_2 s_1 => (if r_2 = (-1 : Int32) then (some (Sum.inr 1, s_1)) else (some (Sum.inl r_2, s_1))))
set_option maxRecDepth 100000 in
set_option maxHeartbeats 4000000 in
theorem FP_start_w {l : Launch} {D : va_G} {ad : Nat → Nat} {cA : Nat → ClassId} {tb : Nat} {E : zz_E} (hV : zz_ok (zc_V l D ad cA tb)) (h : zz_X (zc_V l D ad cA tb) E "FrameProcessor" prog_1_method_7_code 4 zt_T 6 120 (some .int)) (hT : zz_XT (zc_V l D ad cA tb) E) (x1 : Int32) (x2 : Int32) (st : zz_S) : zz_Z (zc_V l D ad cA tb) E 4 0 0 (zz_t (zc_V l D ad cA tb) E zz_ji zx_c) (FP_start_f x1 x2 st) 0 [(0, .ref (ad 0)), (1, .int x1), (2, .int x2)] [] st := by
  unfold FP_start_f
  refine zz_aload_n h dFP_start_0 rfl ?_
  refine zc_g_FP_processor h zi_FP zf_FP_28 dFP_start_1 ?_
  refine zz_iload_n h dFP_start_4 rfl ?_
  refine zz_ldc (v := 65535) h dFP_start_5 zc_FP_69 ?_
  refine zz_iand h dFP_start_7 ?_
  refine zz_iload_n h dFP_start_8 rfl ?_
  refine zz_callV2i h 3 rfl rfl (PR_launch_c hV _ _ _) PR_launch_k zm_FP_70 rfl rfl ⟨Nat.le_of_ble_eq_true rfl, Nat.le_of_ble_eq_true rfl⟩ (Nat.le_of_ble_eq_true rfl) dFP_start_9 (fun r_2 s_1 => ?_)
  refine zz_istore_n h dFP_start_12 (Nat.le_of_ble_eq_true rfl) ?_
  refine zz_iload_n h dFP_start_13 rfl ?_
  refine zz_iconst (v := -1) h dFP_start_14 zz_li_m1 ?_
  refine zz_icmp_ne h 26 dFP_start_15 rfl ?_ ?_
  · exact zz_thr h hT 1 rfl (by decide +kernel) (by decide +kernel) zt_good zc_th1 (by decide) (by decide) dFP_start_18 dFP_start_21 dFP_start_22 dFP_start_25
  · refine zz_iload_n h dFP_start_26 rfl ?_
    exact zz_inl (zz_iret h dFP_start_27)
theorem FP_start_c {l : Launch} {D : va_G} {ad : Nat → Nat} {cA : Nat → ClassId} {tb : Nat} (hV : zz_ok (zc_V l D ad cA tb)) (htr : l.stackTraces = false) (x1 : Int32) (x2 : Int32) (st : zz_S) : zz_CT (zc_V l D ad cA tb) yFP_start (Cond.code yFP_start prog_1_method_7_code 4 (some .int) :: zt_T) { frames := 6, cells := 1, slots := 6, locals := 120 } 1 6 zz_ji zx_c [.ref (ad 0), .int x1, .int x2] st (FP_start_f x1 x2 st) := zz_metT hV htr (by decide +kernel) rfl (Nat.le_of_ble_eq_true rfl) rfl (by decide) (by decide) (fun E h hT => FP_start_w hV h hT x1 x2 st)
def FP_run_21b (k21 : Int32 → Int32 → zz_S → Option ((Int32 ⊕ Nat) × zz_S)) (x1 : Int32) (x2 : Int32) (st : zz_S) : Option ((Int32 ⊕ Nat) × zz_S) := (if x1 ≤ x2 then (some (Sum.inl x2, st)) else (zz_bd (RO_runner_f st) fun r_2 s_1 => (zz_oc r_2 (some (Sum.inl x2, s_1)) fun t_3 => zz_gd (Nat.blt t_3 6) (zz_bd (PR_step_f t_3 s_1) fun _ s_5 => (k21 x1 (x2 + (1 : Int32)) s_5)))))
def FP_run_21 : Nat → Int32 → Int32 → zz_S → Option ((Int32 ⊕ Nat) × zz_S)
  | 0 => fun _ _ _ => none
  | n + 1 => FP_run_21b (FP_run_21 n)
def FP_run_11 (st : zz_S) : Option ((Int32 ⊕ Nat) × zz_S) := (some (Sum.inr 2, st))
def FP_run_f (x1 : Int32) (st : zz_S) : Option ((Int32 ⊕ Nat) × zz_S) := (if x1 < 0 then (FP_run_11 st) else (if x1 ≤ (500 : Int32) then (FP_run_21 501 x1 (0 : Int32) st) else (FP_run_11 st)))
set_option maxRecDepth 100000 in
set_option maxHeartbeats 4000000 in
theorem FP_run_21b_w {l : Launch} {D : va_G} {ad : Nat → Nat} {cA : Nat → ClassId} {tb : Nat} {E : zz_E} (hV : zz_ok (zc_V l D ad cA tb)) (h : zz_X (zc_V l D ad cA tb) E "FrameProcessor" prog_1_method_8_code 4 zt_T 6 144 (some .int)) (hT : zz_XT (zc_V l D ad cA tb) E) {k21 : Int32 → Int32 → zz_S → Option ((Int32 ⊕ Nat) × zz_S)} (hk21 : ∀ (x1 : Int32) (x2 : Int32) (st : zz_S), zz_Z (zc_V l D ad cA tb) E 4 0 0 (zz_t (zc_V l D ad cA tb) E zz_ji zx_c) (k21 x1 x2 st) 21 [(0, .ref (ad 0)), (1, .int x1), (2, .int x2)] [] st) (x1 : Int32) (x2 : Int32) (st : zz_S) : zz_Z (zc_V l D ad cA tb) E 4 0 0 (zz_t (zc_V l D ad cA tb) E zz_ji zx_c) (FP_run_21b k21 x1 x2 st) 21 [(0, .ref (ad 0)), (1, .int x1), (2, .int x2)] [] st := by
  unfold FP_run_21b
  refine zz_iload_n h dFP_run_21 rfl ?_
  refine zz_iload_n h dFP_run_22 rfl ?_
  refine zz_icmp_ge h 55 dFP_run_23 rfl ?_ ?_
  · refine zz_iload_n h dFP_run_55 rfl ?_
    exact zz_inl (zz_iret h dFP_run_56)
  · refine zz_aload_n h dFP_run_26 rfl ?_
    refine zc_g_FP_roster h zi_FP zf_FP_19 dFP_run_27 ?_
    refine zz_callV0q h 2 rfl rfl (RO_runner_c hV _) RO_runner_k zm_FP_77 rfl rfl ⟨Nat.le_of_ble_eq_true rfl, Nat.le_of_ble_eq_true rfl⟩ (Nat.le_of_ble_eq_true rfl) dFP_run_30 (fun r_2 s_1 => ?_)
    refine zz_astore_nq h dFP_run_33 (Nat.le_of_ble_eq_true rfl) ?_
    refine zz_aload_nq h dFP_run_34 rfl ?_
    refine zz_ifnonnull h 41 dFP_run_35 rfl (fun e_4 => ?_) (fun t_3 ht_3 e_4 => ?_)
    · subst e_4
      refine zz_goto h 55 dFP_run_38 rfl ?_
      refine zz_iload_n h dFP_run_55 rfl ?_
      exact zz_inl (zz_iret h dFP_run_56)
    · subst e_4
      refine zz_aload_n h dFP_run_41 rfl ?_
      refine zc_g_FP_processor h zi_FP zf_FP_28 dFP_run_42 ?_
      refine zz_aload_n h dFP_run_45 rfl ?_
      refine zz_callV1v h 3 rfl rfl (PR_step_c hV _ ht_3 _) PR_step_k zm_FP_81 rfl rfl ⟨Nat.le_of_ble_eq_true rfl, Nat.le_of_ble_eq_true rfl⟩ (Nat.le_of_ble_eq_true rfl) dFP_run_46 (fun _ s_5 => ?_)
      refine zz_iinc h (1 : Int32) dFP_run_49 zz_li_1 rfl (Nat.le_of_ble_eq_true rfl) ?_
      refine zz_goto h 21 dFP_run_52 rfl ?_
      exact zz_sub (hk21 _ _ _) rfl
theorem FP_run_21_w {l : Launch} {D : va_G} {ad : Nat → Nat} {cA : Nat → ClassId} {tb : Nat} {E : zz_E} (hV : zz_ok (zc_V l D ad cA tb)) (h : zz_X (zc_V l D ad cA tb) E "FrameProcessor" prog_1_method_8_code 4 zt_T 6 144 (some .int)) (hT : zz_XT (zc_V l D ad cA tb) E) : ∀ (n : Nat) (x1 : Int32) (x2 : Int32) (st : zz_S), zz_Z (zc_V l D ad cA tb) E 4 0 0 (zz_t (zc_V l D ad cA tb) E zz_ji zx_c) (FP_run_21 n x1 x2 st) 21 [(0, .ref (ad 0)), (1, .int x1), (2, .int x2)] [] st
  | 0, _, _, _ => zz_none
  | n + 1, x1, x2, st => FP_run_21b_w hV h hT (FP_run_21_w hV h hT n) x1 x2 st
set_option maxRecDepth 100000 in
set_option maxHeartbeats 4000000 in
theorem FP_run_11_w {l : Launch} {D : va_G} {ad : Nat → Nat} {cA : Nat → ClassId} {tb : Nat} {E : zz_E} (hV : zz_ok (zc_V l D ad cA tb)) (h : zz_X (zc_V l D ad cA tb) E "FrameProcessor" prog_1_method_8_code 4 zt_T 6 144 (some .int)) (hT : zz_XT (zc_V l D ad cA tb) E) (st : zz_S) : zz_Z (zc_V l D ad cA tb) E 4 0 0 (zz_t (zc_V l D ad cA tb) E zz_ji zx_c) (FP_run_11  st) 11 [] [] st := by
  unfold FP_run_11
  exact zz_thr h hT 2 rfl (by decide +kernel) (by decide +kernel) zt_good zc_th2 (by decide) (by decide) dFP_run_11 dFP_run_14 dFP_run_15 dFP_run_18
set_option maxRecDepth 100000 in
set_option maxHeartbeats 4000000 in
theorem FP_run_w {l : Launch} {D : va_G} {ad : Nat → Nat} {cA : Nat → ClassId} {tb : Nat} {E : zz_E} (hV : zz_ok (zc_V l D ad cA tb)) (h : zz_X (zc_V l D ad cA tb) E "FrameProcessor" prog_1_method_8_code 4 zt_T 6 144 (some .int)) (hT : zz_XT (zc_V l D ad cA tb) E) (x1 : Int32) (st : zz_S) : zz_Z (zc_V l D ad cA tb) E 4 0 0 (zz_t (zc_V l D ad cA tb) E zz_ji zx_c) (FP_run_f x1 st) 0 [(0, .ref (ad 0)), (1, .int x1)] [] st := by
  unfold FP_run_f
  refine zz_iload_n h dFP_run_0 rfl ?_
  refine zz_if_lt h 11 dFP_run_1 rfl ?_ ?_
  · exact zz_sub (FP_run_11_w hV h hT  _) rfl
  · refine zz_iload_n h dFP_run_4 rfl ?_
    refine zz_sipush (v := 500) h dFP_run_5 zz_ls_500 ?_
    refine zz_icmp_le h 19 dFP_run_8 rfl ?_ ?_
    · refine zz_iconst (v := 0) h dFP_run_19 zz_li_0 ?_
      refine zz_istore_n h dFP_run_20 (Nat.le_of_ble_eq_true rfl) ?_
      exact zz_sub (FP_run_21_w hV h hT _ _ _ _) rfl
    · exact zz_sub (FP_run_11_w hV h hT  _) rfl
theorem FP_run_c {l : Launch} {D : va_G} {ad : Nat → Nat} {cA : Nat → ClassId} {tb : Nat} (hV : zz_ok (zc_V l D ad cA tb)) (htr : l.stackTraces = false) (x1 : Int32) (st : zz_S) : zz_CT (zc_V l D ad cA tb) yFP_run (Cond.code yFP_run prog_1_method_8_code 4 (some .int) :: zt_T) { frames := 6, cells := 1, slots := 6, locals := 144 } 1 6 zz_ji zx_c [.ref (ad 0), .int x1] st (FP_run_f x1 st) := zz_metT hV htr (by decide +kernel) rfl (Nat.le_of_ble_eq_true rfl) rfl (by decide) (by decide) (fun E h hT => FP_run_w hV h hT x1 st)
def FP_resume_f (x1 : Int32) (st : zz_S) : Option ((Unit ⊕ Nat) × zz_S) := (zz_bd (RO_taskAt_f x1 st) fun r_2 s_1 => (zz_oc r_2 (some (Sum.inr 0, s_1)) fun t_3 => zz_gd (Nat.blt t_3 6) (if (zz_ag s_1 7 t_3) = (4 : Int32) then (zz_bd (RO_makeReady_f t_3 s_1) fun _ s_5 => (some (Sum.inl (), s_5))) else (some (Sum.inr 1, s_1)))))
set_option maxRecDepth 100000 in
set_option maxHeartbeats 4000000 in
theorem FP_resume_w {l : Launch} {D : va_G} {ad : Nat → Nat} {cA : Nat → ClassId} {tb : Nat} {E : zz_E} (hV : zz_ok (zc_V l D ad cA tb)) (h : zz_X (zc_V l D ad cA tb) E "FrameProcessor" prog_1_method_9_code 3 zt_T 6 81 none) (hT : zz_XT (zc_V l D ad cA tb) E) (x1 : Int32) (st : zz_S) : zz_Z (zc_V l D ad cA tb) E 3 0 0 (zz_t (zc_V l D ad cA tb) E zz_jv zx_c) (FP_resume_f x1 st) 0 [(0, .ref (ad 0)), (1, .int x1)] [] st := by
  unfold FP_resume_f
  refine zz_aload_n h dFP_resume_0 rfl ?_
  refine zc_g_FP_roster h zi_FP zf_FP_19 dFP_resume_1 ?_
  refine zz_iload_n h dFP_resume_4 rfl ?_
  refine zz_callV1q h 2 rfl rfl (RO_taskAt_c hV _ _) RO_taskAt_k zm_FP_85 rfl rfl ⟨Nat.le_of_ble_eq_true rfl, Nat.le_of_ble_eq_true rfl⟩ (Nat.le_of_ble_eq_true rfl) dFP_resume_5 (fun r_2 s_1 => ?_)
  refine zz_astore_nq h dFP_resume_8 (Nat.le_of_ble_eq_true rfl) ?_
  refine zz_aload_nq h dFP_resume_9 rfl ?_
  refine zz_ifnonnull h 21 dFP_resume_10 rfl (fun e_4 => ?_) (fun t_3 ht_3 e_4 => ?_)
  · subst e_4
    exact zz_thr h hT 0 rfl (by decide +kernel) (by decide +kernel) zt_good zc_th0 (by decide) (by decide) dFP_resume_13 dFP_resume_16 dFP_resume_17 dFP_resume_20
  · subst e_4
    refine zz_aload_n h dFP_resume_21 rfl ?_
    refine zc_g_TA_state ht_3 h zi_TA zf_FP_89 dFP_resume_22 ?_
    refine zz_iconst (v := 4) h dFP_resume_25 zz_li_4 ?_
    refine zz_icmp_eq h 37 dFP_resume_26 rfl ?_ ?_
    · refine zz_aload_n h dFP_resume_37 rfl ?_
      refine zc_g_FP_roster h zi_FP zf_FP_19 dFP_resume_38 ?_
      refine zz_aload_n h dFP_resume_41 rfl ?_
      refine zz_callV1v h 2 rfl rfl (RO_makeReady_c hV _ ht_3 _) RO_makeReady_k zm_FP_95 rfl rfl ⟨Nat.le_of_ble_eq_true rfl, Nat.le_of_ble_eq_true rfl⟩ (Nat.le_of_ble_eq_true rfl) dFP_resume_42 (fun _ s_5 => ?_)
      exact zz_inl (zz_vret h dFP_resume_45)
    · exact zz_thr h hT 1 rfl (by decide +kernel) (by decide +kernel) zt_good zc_th1 (by decide) (by decide) dFP_resume_29 dFP_resume_32 dFP_resume_33 dFP_resume_36
theorem FP_resume_c {l : Launch} {D : va_G} {ad : Nat → Nat} {cA : Nat → ClassId} {tb : Nat} (hV : zz_ok (zc_V l D ad cA tb)) (htr : l.stackTraces = false) (x1 : Int32) (st : zz_S) : zz_CT (zc_V l D ad cA tb) yFP_resume (Cond.code yFP_resume prog_1_method_9_code 3 none :: zt_T) { frames := 6, cells := 1, slots := 6, locals := 81 } 1 6 zz_jv zx_c [.ref (ad 0), .int x1] st (FP_resume_f x1 st) := zz_metT hV htr (by decide +kernel) rfl (Nat.le_of_ble_eq_true rfl) rfl (by decide) (by decide) (fun E h hT => FP_resume_w hV h hT x1 st)
def FP_kill_f (x1 : Int32) (st : zz_S) : Option ((Unit ⊕ Nat) × zz_S) := (zz_bd (RO_taskAt_f x1 st) fun r_2 s_1 => (zz_oc r_2 (some (Sum.inr 0, s_1)) fun t_3 => zz_gd (Nat.blt t_3 6) (if (zz_ag s_1 7 t_3) = 0 then (some (Sum.inr 1, s_1)) else (zz_bd (TA_clear_f t_3 s_1) fun _ s_5 => (some (Sum.inl (), s_5))))))
set_option maxRecDepth 100000 in
set_option maxHeartbeats 4000000 in
theorem FP_kill_w {l : Launch} {D : va_G} {ad : Nat → Nat} {cA : Nat → ClassId} {tb : Nat} {E : zz_E} (hV : zz_ok (zc_V l D ad cA tb)) (h : zz_X (zc_V l D ad cA tb) E "FrameProcessor" prog_1_method_10_code 3 zt_T 6 81 none) (hT : zz_XT (zc_V l D ad cA tb) E) (x1 : Int32) (st : zz_S) : zz_Z (zc_V l D ad cA tb) E 3 0 0 (zz_t (zc_V l D ad cA tb) E zz_jv zx_c) (FP_kill_f x1 st) 0 [(0, .ref (ad 0)), (1, .int x1)] [] st := by
  unfold FP_kill_f
  refine zz_aload_n h dFP_kill_0 rfl ?_
  refine zc_g_FP_roster h zi_FP zf_FP_19 dFP_kill_1 ?_
  refine zz_iload_n h dFP_kill_4 rfl ?_
  refine zz_callV1q h 2 rfl rfl (RO_taskAt_c hV _ _) RO_taskAt_k zm_FP_85 rfl rfl ⟨Nat.le_of_ble_eq_true rfl, Nat.le_of_ble_eq_true rfl⟩ (Nat.le_of_ble_eq_true rfl) dFP_kill_5 (fun r_2 s_1 => ?_)
  refine zz_astore_nq h dFP_kill_8 (Nat.le_of_ble_eq_true rfl) ?_
  refine zz_aload_nq h dFP_kill_9 rfl ?_
  refine zz_ifnonnull h 21 dFP_kill_10 rfl (fun e_4 => ?_) (fun t_3 ht_3 e_4 => ?_)
  · subst e_4
    exact zz_thr h hT 0 rfl (by decide +kernel) (by decide +kernel) zt_good zc_th0 (by decide) (by decide) dFP_kill_13 dFP_kill_16 dFP_kill_17 dFP_kill_20
  · subst e_4
    refine zz_aload_n h dFP_kill_21 rfl ?_
    refine zc_g_TA_state ht_3 h zi_TA zf_FP_89 dFP_kill_22 ?_
    refine zz_if_ne h 36 dFP_kill_25 rfl ?_ ?_
    · exact zz_thr h hT 1 rfl (by decide +kernel) (by decide +kernel) zt_good zc_th1 (by decide) (by decide) dFP_kill_28 dFP_kill_31 dFP_kill_32 dFP_kill_35
    · refine zz_aload_n h dFP_kill_36 rfl ?_
      refine zz_callV0v h (15 + t_3) (zc_at ht_3) rfl (TA_clear_c hV _ ht_3 _) TA_clear_k zm_FP_98 rfl rfl ⟨Nat.le_of_ble_eq_true rfl, Nat.le_of_ble_eq_true rfl⟩ (Nat.le_of_ble_eq_true rfl) dFP_kill_37 (fun _ s_5 => ?_)
      exact zz_inl (zz_vret h dFP_kill_40)
theorem FP_kill_c {l : Launch} {D : va_G} {ad : Nat → Nat} {cA : Nat → ClassId} {tb : Nat} (hV : zz_ok (zc_V l D ad cA tb)) (htr : l.stackTraces = false) (x1 : Int32) (st : zz_S) : zz_CT (zc_V l D ad cA tb) yFP_kill (Cond.code yFP_kill prog_1_method_10_code 3 none :: zt_T) { frames := 6, cells := 1, slots := 6, locals := 81 } 1 6 zz_jv zx_c [.ref (ad 0), .int x1] st (FP_kill_f x1 st) := zz_metT hV htr (by decide +kernel) rfl (Nat.le_of_ble_eq_true rfl) rfl (by decide) (by decide) (fun E h hT => FP_kill_w hV h hT x1 st)
def FP_interrupt_f (x1 : Int32) (st : zz_S) : Option ((Int32 ⊕ Nat) × zz_S) := (zz_bd (ME_isAddress_f x1 st) fun r_2 s_1 => (if r_2 = 0 then (some (Sum.inr 0, s_1)) else (zz_bd (RO_wakeFirst_f (3 : Int32) x1 s_1) fun r_4 s_3 => (if r_4 = (-1 : Int32) then (zz_bd (ME_makeOdd_f x1 s_3) fun _ s_5 => (some (Sum.inl r_4, s_5))) else (some (Sum.inl r_4, s_3))))))
set_option maxRecDepth 100000 in
set_option maxHeartbeats 4000000 in
theorem FP_interrupt_w {l : Launch} {D : va_G} {ad : Nat → Nat} {cA : Nat → ClassId} {tb : Nat} {E : zz_E} (hV : zz_ok (zc_V l D ad cA tb)) (h : zz_X (zc_V l D ad cA tb) E "FrameProcessor" prog_1_method_11_code 3 zt_T 6 81 (some .int)) (hT : zz_XT (zc_V l D ad cA tb) E) (x1 : Int32) (st : zz_S) : zz_Z (zc_V l D ad cA tb) E 3 0 0 (zz_t (zc_V l D ad cA tb) E zz_ji zx_c) (FP_interrupt_f x1 st) 0 [(0, .ref (ad 0)), (1, .int x1)] [] st := by
  unfold FP_interrupt_f
  refine zz_iload_n h dFP_interrupt_0 rfl ?_
  refine zz_callS1i h (ME_isAddress_c hV _ _) ME_isAddress_k zm_FP_54 rfl rfl ⟨Nat.le_of_ble_eq_true rfl, Nat.le_of_ble_eq_true rfl⟩ (Nat.le_of_ble_eq_true rfl) dFP_interrupt_1 (fun r_2 s_1 => ?_)
  refine zz_if_ne h 15 dFP_interrupt_4 rfl ?_ ?_
  · exact zz_thr h hT 0 rfl (by decide +kernel) (by decide +kernel) zt_good zc_th0 (by decide) (by decide) dFP_interrupt_7 dFP_interrupt_10 dFP_interrupt_11 dFP_interrupt_14
  · refine zz_aload_n h dFP_interrupt_15 rfl ?_
    refine zc_g_FP_roster h zi_FP zf_FP_19 dFP_interrupt_16 ?_
    refine zz_iconst (v := 3) h dFP_interrupt_19 zz_li_3 ?_
    refine zz_iload_n h dFP_interrupt_20 rfl ?_
    refine zz_callV2i h 2 rfl rfl (RO_wakeFirst_c hV _ _ _) RO_wakeFirst_k zm_FP_101 rfl rfl ⟨Nat.le_of_ble_eq_true rfl, Nat.le_of_ble_eq_true rfl⟩ (Nat.le_of_ble_eq_true rfl) dFP_interrupt_21 (fun r_4 s_3 => ?_)
    refine zz_istore_n h dFP_interrupt_24 (Nat.le_of_ble_eq_true rfl) ?_
    refine zz_iload_n h dFP_interrupt_25 rfl ?_
    refine zz_iconst (v := -1) h dFP_interrupt_26 zz_li_m1 ?_
    refine zz_icmp_ne h 38 dFP_interrupt_27 rfl ?_ ?_
    · refine zz_aload_n h dFP_interrupt_30 rfl ?_
      refine zc_g_FP_memory h zi_FP zf_FP_10 dFP_interrupt_31 ?_
      refine zz_iload_n h dFP_interrupt_34 rfl ?_
      refine zz_callV1v h 1 rfl rfl (ME_makeOdd_c hV _ _) ME_makeOdd_k zm_FP_104 rfl rfl ⟨Nat.le_of_ble_eq_true rfl, Nat.le_of_ble_eq_true rfl⟩ (Nat.le_of_ble_eq_true rfl) dFP_interrupt_35 (fun _ s_5 => ?_)
      refine zz_iload_n h dFP_interrupt_38 rfl ?_
      exact zz_inl (zz_iret h dFP_interrupt_39)
    · refine zz_iload_n h dFP_interrupt_38 rfl ?_
      exact zz_inl (zz_iret h dFP_interrupt_39)
theorem FP_interrupt_c {l : Launch} {D : va_G} {ad : Nat → Nat} {cA : Nat → ClassId} {tb : Nat} (hV : zz_ok (zc_V l D ad cA tb)) (htr : l.stackTraces = false) (x1 : Int32) (st : zz_S) : zz_CT (zc_V l D ad cA tb) yFP_interrupt (Cond.code yFP_interrupt prog_1_method_11_code 3 (some .int) :: zt_T) { frames := 6, cells := 1, slots := 6, locals := 81 } 1 6 zz_ji zx_c [.ref (ad 0), .int x1] st (FP_interrupt_f x1 st) := zz_metT hV htr (by decide +kernel) rfl (Nat.le_of_ble_eq_true rfl) rfl (by decide) (by decide) (fun E h hT => FP_interrupt_w hV h hT x1 st)
def FP_tick_10 (st : zz_S) : Option ((Int32 ⊕ Nat) × zz_S) := (some (Sum.inr 2, st))
def FP_tick_f (x1 : Int32) (st : zz_S) : Option ((Int32 ⊕ Nat) × zz_S) := (if x1 < 0 then (FP_tick_10 st) else (if x1 ≤ (100000 : Int32) then (zz_bd (RO_passTicks_f x1 st) fun r_2 s_1 => (some (Sum.inl r_2, s_1))) else (FP_tick_10 st)))
set_option maxRecDepth 100000 in
set_option maxHeartbeats 4000000 in
theorem FP_tick_10_w {l : Launch} {D : va_G} {ad : Nat → Nat} {cA : Nat → ClassId} {tb : Nat} {E : zz_E} (hV : zz_ok (zc_V l D ad cA tb)) (h : zz_X (zc_V l D ad cA tb) E "FrameProcessor" prog_1_method_12_code 2 zt_T 6 92 (some .int)) (hT : zz_XT (zc_V l D ad cA tb) E) (st : zz_S) : zz_Z (zc_V l D ad cA tb) E 2 0 0 (zz_t (zc_V l D ad cA tb) E zz_ji zx_c) (FP_tick_10  st) 10 [] [] st := by
  unfold FP_tick_10
  exact zz_thr h hT 2 rfl (by decide +kernel) (by decide +kernel) zt_good zc_th2 (by decide) (by decide) dFP_tick_10 dFP_tick_13 dFP_tick_14 dFP_tick_17
set_option maxRecDepth 100000 in
set_option maxHeartbeats 4000000 in
theorem FP_tick_w {l : Launch} {D : va_G} {ad : Nat → Nat} {cA : Nat → ClassId} {tb : Nat} {E : zz_E} (hV : zz_ok (zc_V l D ad cA tb)) (h : zz_X (zc_V l D ad cA tb) E "FrameProcessor" prog_1_method_12_code 2 zt_T 6 92 (some .int)) (hT : zz_XT (zc_V l D ad cA tb) E) (x1 : Int32) (st : zz_S) : zz_Z (zc_V l D ad cA tb) E 2 0 0 (zz_t (zc_V l D ad cA tb) E zz_ji zx_c) (FP_tick_f x1 st) 0 [(0, .ref (ad 0)), (1, .int x1)] [] st := by
  unfold FP_tick_f
  refine zz_iload_n h dFP_tick_0 rfl ?_
  refine zz_if_lt h 10 dFP_tick_1 rfl ?_ ?_
  · exact zz_sub (FP_tick_10_w hV h hT  _) rfl
  · refine zz_iload_n h dFP_tick_4 rfl ?_
    refine zz_ldc (v := 100000) h dFP_tick_5 zc_FP_108 ?_
    refine zz_icmp_le h 18 dFP_tick_7 rfl ?_ ?_
    · refine zz_aload_n h dFP_tick_18 rfl ?_
      refine zc_g_FP_roster h zi_FP zf_FP_19 dFP_tick_19 ?_
      refine zz_iload_n h dFP_tick_22 rfl ?_
      refine zz_callV1i h 2 rfl rfl (RO_passTicks_c hV _ _) RO_passTicks_k zm_FP_109 rfl rfl ⟨Nat.le_of_ble_eq_true rfl, Nat.le_of_ble_eq_true rfl⟩ (Nat.le_of_ble_eq_true rfl) dFP_tick_23 (fun r_2 s_1 => ?_)
      exact zz_inl (zz_iret h dFP_tick_26)
    · exact zz_sub (FP_tick_10_w hV h hT  _) rfl
theorem FP_tick_c {l : Launch} {D : va_G} {ad : Nat → Nat} {cA : Nat → ClassId} {tb : Nat} (hV : zz_ok (zc_V l D ad cA tb)) (htr : l.stackTraces = false) (x1 : Int32) (st : zz_S) : zz_CT (zc_V l D ad cA tb) yFP_tick (Cond.code yFP_tick prog_1_method_12_code 2 (some .int) :: zt_T) { frames := 6, cells := 1, slots := 6, locals := 92 } 1 6 zz_ji zx_c [.ref (ad 0), .int x1] st (FP_tick_f x1 st) := zz_metT hV htr (by decide +kernel) rfl (Nat.le_of_ble_eq_true rfl) rfl (by decide) (by decide) (fun E h hT => FP_tick_w hV h hT x1 st)
