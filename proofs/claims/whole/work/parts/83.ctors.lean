theorem zk_cs {E : zz_E} {c s c1 s1 : Nat} (h : zz_cs E c s) (h1 : c1 ≤ c) (h2 : s1 ≤ s) : zz_cs E c1 s1 := ⟨Nat.le_trans h1 h.1, Nat.le_trans h2 h.2⟩
section ZKB
variable {σ α : Type} {V : zz_V σ} {E : zz_E} {own : String} {cc : ByteArray} {nL F K cn sn : Nat} {Ts : List Cond} {ret : Option FieldType} {inj : α × σ → State → Prop} {k : Option (α × σ)} {pc : Nat} {L : List (Nat × Value)} {stk : List Value} {st : σ}
theorem zk_geT (h : zz_X V E own cc nL Ts F K ret) {x y : Int32} {off : Int} (tgt : Nat) (d : decode cc pc = .ok (.if_icmp .ge off, 3)) (ht : (pc : Int) + off = (tgt : Int)) (hc : y ≤ x) (z : zz_Z V E nL cn sn inj k tgt L stk st) : zz_Z V E nL cn sn inj k pc L (.int y :: .int x :: stk) st := by
  have := zz_icmp_ge (x := x) (y := y) (k1 := k) (k2 := none) h tgt d ht z zz_none
  rw [if_pos hc] at this
  exact this
theorem zk_geF (h : zz_X V E own cc nL Ts F K ret) {x y : Int32} {off : Int} (tgt : Nat) (d : decode cc pc = .ok (.if_icmp .ge off, 3)) (ht : (pc : Int) + off = (tgt : Int)) (hc : ¬ y ≤ x) (z : zz_Z V E nL cn sn inj k (pc + 3) L stk st) : zz_Z V E nL cn sn inj k pc L (.int y :: .int x :: stk) st := by
  have := zz_icmp_ge (x := x) (y := y) (k1 := none) (k2 := k) h tgt d ht zz_none z
  rw [if_neg hc] at this
  exact this
theorem zk_iinc (h : zz_X V E own cc nL Ts F K ret) {j : Nat} {n : Int} {x : Int32} (v : Int32) (d : decode cc pc = .ok (.iinc j n, 3)) (hv : zz_lu L j = some (.int x)) (hx : x + Int32.ofInt n = v) (hn : j < nL) (z : zz_Z V E nL cn sn inj k (pc + 3) ((j, .int v) :: L) stk st) : zz_Z V E nL cn sn inj k pc L stk st := by
  subst hx
  exact zz_iinc h _ d rfl hv hn z
end ZKB
set_option maxRecDepth 100000 in
set_option maxHeartbeats 8000000 in
theorem FR_init_w {l : Launch} {D : va_G} {cI cZ cT cL : ClassId} {A : Nat → Prop} {E : zz_E} (h0 : Nat) (h1 : Nat) (h : zz_X (zk_V l D [(cI, .int), (cZ, .boolean), (cT, .object "FrameProcessor$Task"), (cL, .long)] A [(h0, .inr (4, [.null]))]) E "FrameProcessor$Frames" prog_2_method_1_code 2 zt_T 1 32 none) (hE : zk_E E A) (hI : zk_I E) (hcs : zz_cs E 0 0) (hmc : E.2.2.2.2.2.2.2.2.2.2 = (0, 0)) : zz_Z (zk_V l D [(cI, .int), (cZ, .boolean), (cT, .object "FrameProcessor$Task"), (cL, .long)] A [(h0, .inr (4, [.null]))]) E 2 0 0 (zk_q l D E (fun f => [(h0, .inr (4, [.ref h1]))])) (some ((), ())) 0 [(0, .ref h0), (1, .ref h1)] [] () := by
  refine zz_aload_n h dFR_init_0 rfl ?_
  refine zk_obj h zko_FR_3 zko_i zko_c (Nat.le_of_ble_eq_true rfl) (Nat.le_of_ble_eq_true rfl) dFR_init_1 ?_
  refine zz_aload_n h dFR_init_4 rfl ?_
  refine zz_aload_n h dFR_init_5 rfl ?_
  refine zk_putF h hE hI zi_FR zy_FR zy_FR_ok zw_FR 0 rfl rfl 0 (by decide) zf_FR_9 rfl rfl rfl (ty := zy_FR 0) (by decide +kernel) rfl rfl (Nat.le_of_ble_eq_true rfl) dFR_init_6 (ws' := [(h0, .inr (4, [.ref h1]))]) rfl (fun h => ?_)
  exact zk_ret h hE (fun n => [].getD n 0) rfl hmc (by decide) (by decide) dFR_init_9
theorem FR_init_c {l : Launch} {D : va_G} {cI cZ cT cL : ClassId} (h0 : Nat) (h1 : Nat) : zk_C l D [(cI, .int), (cZ, .boolean), (cT, .object "FrameProcessor$Task"), (cL, .long)] yFR_init (Cond.code yFR_init prog_2_method_1_code 2 none :: zt_T) { frames := 1, cells := 0, slots := 0, locals := 32 } 0 0 [.ref h0, .ref h1] [(h0, .inr (4, [.null]))] (fun f => [(h0, .inr (4, [.ref h1]))]) := zk_met (by decide +kernel) rfl rfl (Nat.le_of_ble_eq_true rfl) rfl (fun E A h hE hI hcs hmc => FR_init_w h0 h1 h hE hI hcs hmc)
set_option maxRecDepth 100000 in
set_option maxHeartbeats 8000000 in
theorem WS_init_w {l : Launch} {D : va_G} {cI cZ cT cL : ClassId} {A : Nat → Prop} {E : zz_E} (h0 : Nat) (h1 : Nat) (h : zz_X (zk_V l D [(cI, .int), (cZ, .boolean), (cT, .object "FrameProcessor$Task"), (cL, .long)] A [(h0, .inr (5, [.null, .null, .int 0]))]) E "FrameProcessor$WorkStack" prog_8_method_1_code 2 zt_T 1 32 none) (hE : zk_E E A) (hI : zk_I E) (hcs : zz_cs E 1 9) (hmc : E.2.2.2.2.2.2.2.2.2.2 = (1, 9)) : zz_Z (zk_V l D [(cI, .int), (cZ, .boolean), (cT, .object "FrameProcessor$Task"), (cL, .long)] A [(h0, .inr (5, [.null, .null, .int 0]))]) E 2 0 0 (zk_q l D E (fun f => [(h0, .inr (5, [.ref h1, .ref (f 0), .int 0])), ((f 0), .inl (cI, 9, .inl (fun _ => 0)))])) (some ((), ())) 0 [(0, .ref h0), (1, .ref h1)] [] () := by
  refine zz_aload_n h dWS_init_0 rfl ?_
  refine zk_obj h zko_WS_5 zko_i zko_c (Nat.le_of_ble_eq_true rfl) (Nat.le_of_ble_eq_true rfl) dWS_init_1 ?_
  refine zz_aload_n h dWS_init_4 rfl ?_
  refine zz_bipush (v := 9) h dWS_init_5 zz_lb_9 ?_
  refine zk_newa h hE (atype := .int) (ty := .int) rfl zq_int 0 rfl (fun _ h => h) (fun _ _ h => h) (N' := 9) (a0 := (9, .inl (fun _ => 0))) (fun _ => rfl) (by decide) (by decide) (by decide) (zk_cs hcs (by decide) (by decide)) dWS_init_7 (ws' := fun q1 => [(h0, .inr (5, [.null, .null, .int 0])), (q1, .inl (cI, 9, .inl (fun _ => 0)))]) (fun _ => rfl) (fun q1 h => ?_)
  refine zk_putF h hE hI zi_WS zy_WS zy_WS_ok zw_WS 0 rfl rfl 1 (by decide) zf_WS_13 rfl rfl rfl (ty := zy_WS 1) (by decide +kernel) rfl rfl (Nat.le_of_ble_eq_true rfl) dWS_init_9 (ws' := [(h0, .inr (5, [.null, .ref q1, .int 0])), (q1, .inl (cI, 9, .inl (fun _ => 0)))]) rfl (fun h => ?_)
  refine zz_aload_n h dWS_init_12 rfl ?_
  refine zz_aload_n h dWS_init_13 rfl ?_
  refine zk_putF h hE hI zi_WS zy_WS zy_WS_ok zw_WS 0 rfl rfl 0 (by decide) zf_WS_17 rfl rfl rfl (ty := zy_WS 0) (by decide +kernel) rfl rfl (Nat.le_of_ble_eq_true rfl) dWS_init_14 (ws' := [(h0, .inr (5, [.ref h1, .ref q1, .int 0])), (q1, .inl (cI, 9, .inl (fun _ => 0)))]) rfl (fun h => ?_)
  exact zk_ret h hE (fun n => [q1].getD n 0) rfl hmc (by decide) (by decide) dWS_init_17
theorem WS_init_c {l : Launch} {D : va_G} {cI cZ cT cL : ClassId} (h0 : Nat) (h1 : Nat) : zk_C l D [(cI, .int), (cZ, .boolean), (cT, .object "FrameProcessor$Task"), (cL, .long)] yWS_init (Cond.code yWS_init prog_8_method_1_code 2 none :: zt_T) { frames := 1, cells := 1, slots := 9, locals := 32 } 1 9 [.ref h0, .ref h1] [(h0, .inr (5, [.null, .null, .int 0]))] (fun f => [(h0, .inr (5, [.ref h1, .ref (f 0), .int 0])), ((f 0), .inl (cI, 9, .inl (fun _ => 0)))]) := zk_met (by decide +kernel) rfl rfl (Nat.le_of_ble_eq_true rfl) rfl (fun E A h hE hI hcs hmc => WS_init_w h0 h1 h hE hI hcs hmc)
set_option maxRecDepth 100000 in
set_option maxHeartbeats 8000000 in
theorem IN_init_w {l : Launch} {D : va_G} {cI cZ cT cL : ClassId} {A : Nat → Prop} {E : zz_E} (h0 : Nat) (h1 : Nat) (h2 : Nat) (h : zz_X (zk_V l D [(cI, .int), (cZ, .boolean), (cT, .object "FrameProcessor$Task"), (cL, .long)] A [(h0, .inr (6, [.null, .null, .int 0, .int 0, .int 0, .int 0, .int 0, .int 0]))]) E "FrameProcessor$Instruction" prog_3_method_1_code 3 zt_T 1 32 none) (hE : zk_E E A) (hI : zk_I E) (hcs : zz_cs E 0 0) (hmc : E.2.2.2.2.2.2.2.2.2.2 = (0, 0)) : zz_Z (zk_V l D [(cI, .int), (cZ, .boolean), (cT, .object "FrameProcessor$Task"), (cL, .long)] A [(h0, .inr (6, [.null, .null, .int 0, .int 0, .int 0, .int 0, .int 0, .int 0]))]) E 3 0 0 (zk_q l D E (fun f => [(h0, .inr (6, [.ref h1, .ref h2, .int 0, .int 0, .int 0, .int 0, .int 0, .int 0]))])) (some ((), ())) 0 [(0, .ref h0), (1, .ref h1), (2, .ref h2)] [] () := by
  refine zz_aload_n h dIN_init_0 rfl ?_
  refine zk_obj h zko_IN_3 zko_i zko_c (Nat.le_of_ble_eq_true rfl) (Nat.le_of_ble_eq_true rfl) dIN_init_1 ?_
  refine zz_aload_n h dIN_init_4 rfl ?_
  refine zz_aload_n h dIN_init_5 rfl ?_
  refine zk_putF h hE hI zi_IN zy_IN zy_IN_ok zw_IN 0 rfl rfl 0 (by decide) zf_IN_9 rfl rfl rfl (ty := zy_IN 0) (by decide +kernel) rfl rfl (Nat.le_of_ble_eq_true rfl) dIN_init_6 (ws' := [(h0, .inr (6, [.ref h1, .null, .int 0, .int 0, .int 0, .int 0, .int 0, .int 0]))]) rfl (fun h => ?_)
  refine zz_aload_n h dIN_init_9 rfl ?_
  refine zz_aload_n h dIN_init_10 rfl ?_
  refine zk_putF h hE hI zi_IN zy_IN zy_IN_ok zw_IN 0 rfl rfl 1 (by decide) zf_IN_15 rfl rfl rfl (ty := zy_IN 1) (by decide +kernel) rfl rfl (Nat.le_of_ble_eq_true rfl) dIN_init_11 (ws' := [(h0, .inr (6, [.ref h1, .ref h2, .int 0, .int 0, .int 0, .int 0, .int 0, .int 0]))]) rfl (fun h => ?_)
  exact zk_ret h hE (fun n => [].getD n 0) rfl hmc (by decide) (by decide) dIN_init_14
theorem IN_init_c {l : Launch} {D : va_G} {cI cZ cT cL : ClassId} (h0 : Nat) (h1 : Nat) (h2 : Nat) : zk_C l D [(cI, .int), (cZ, .boolean), (cT, .object "FrameProcessor$Task"), (cL, .long)] yIN_init (Cond.code yIN_init prog_3_method_1_code 3 none :: zt_T) { frames := 1, cells := 0, slots := 0, locals := 32 } 0 0 [.ref h0, .ref h1, .ref h2] [(h0, .inr (6, [.null, .null, .int 0, .int 0, .int 0, .int 0, .int 0, .int 0]))] (fun f => [(h0, .inr (6, [.ref h1, .ref h2, .int 0, .int 0, .int 0, .int 0, .int 0, .int 0]))]) := zk_met (by decide +kernel) rfl rfl (Nat.le_of_ble_eq_true rfl) rfl (fun E A h hE hI hcs hmc => IN_init_w h0 h1 h2 h hE hI hcs hmc)
set_option maxRecDepth 100000 in
set_option maxHeartbeats 8000000 in
theorem TA_init_w {l : Launch} {D : va_G} {cI cZ cT cL : ClassId} {A : Nat → Prop} {E : zz_E} (h0 : Nat) (k1 : Int32) (h : zz_X (zk_V l D [(cI, .int), (cZ, .boolean), (cT, .object "FrameProcessor$Task"), (cL, .long)] A [(h0, .inr (7, [.int 0, .null, .int 0, .int 0, .int 0, .int 0, .int 0, .int 0, .int 0, .int 0]))]) E "FrameProcessor$Task" prog_7_method_1_code 2 zt_T 1 32 none) (hE : zk_E E A) (hI : zk_I E) (hcs : zz_cs E 1 8) (hmc : E.2.2.2.2.2.2.2.2.2.2 = (1, 8)) : zz_Z (zk_V l D [(cI, .int), (cZ, .boolean), (cT, .object "FrameProcessor$Task"), (cL, .long)] A [(h0, .inr (7, [.int 0, .null, .int 0, .int 0, .int 0, .int 0, .int 0, .int 0, .int 0, .int 0]))]) E 2 0 0 (zk_q l D E (fun f => [(h0, .inr (7, [.int k1, .ref (f 0), .int 0, .int 0, .int 0, .int 0, .int (-1 : Int32), .int 0, .int 0, .int 0])), ((f 0), .inl (cI, 8, .inl (fun _ => 0)))])) (some ((), ())) 0 [(0, .ref h0), (1, .int k1)] [] () := by
  refine zz_aload_n h dTA_init_0 rfl ?_
  refine zk_obj h zko_TA_3 zko_i zko_c (Nat.le_of_ble_eq_true rfl) (Nat.le_of_ble_eq_true rfl) dTA_init_1 ?_
  refine zz_aload_n h dTA_init_4 rfl ?_
  refine zz_bipush (v := 8) h dTA_init_5 zz_lb_8 ?_
  refine zk_newa h hE (atype := .int) (ty := .int) rfl zq_int 0 rfl (fun _ h => h) (fun _ _ h => h) (N' := 8) (a0 := (8, .inl (fun _ => 0))) (fun _ => rfl) (by decide) (by decide) (by decide) (zk_cs hcs (by decide) (by decide)) dTA_init_7 (ws' := fun q1 => [(h0, .inr (7, [.int 0, .null, .int 0, .int 0, .int 0, .int 0, .int 0, .int 0, .int 0, .int 0])), (q1, .inl (cI, 8, .inl (fun _ => 0)))]) (fun _ => rfl) (fun q1 h => ?_)
  refine zk_putF h hE hI zi_TA zy_TA zy_TA_ok zw_TA 0 rfl rfl 1 (by decide) zf_TA_11 rfl rfl rfl (ty := zy_TA 1) (by decide +kernel) rfl rfl (Nat.le_of_ble_eq_true rfl) dTA_init_9 (ws' := [(h0, .inr (7, [.int 0, .ref q1, .int 0, .int 0, .int 0, .int 0, .int 0, .int 0, .int 0, .int 0])), (q1, .inl (cI, 8, .inl (fun _ => 0)))]) rfl (fun h => ?_)
  refine zz_aload_n h dTA_init_12 rfl ?_
  refine zz_iload_n h dTA_init_13 rfl ?_
  refine zk_putF h hE hI zi_TA zy_TA zy_TA_ok zw_TA 0 rfl rfl 0 (by decide) zf_TA_15 rfl rfl rfl (ty := zy_TA 0) (by decide +kernel) rfl rfl (Nat.le_of_ble_eq_true rfl) dTA_init_14 (ws' := [(h0, .inr (7, [.int k1, .ref q1, .int 0, .int 0, .int 0, .int 0, .int 0, .int 0, .int 0, .int 0])), (q1, .inl (cI, 8, .inl (fun _ => 0)))]) rfl (fun h => ?_)
  refine zz_aload_n h dTA_init_17 rfl ?_
  refine zz_iconst (v := -1) h dTA_init_18 zz_li_m1 ?_
  refine zk_put h hE zi_TA zy_TA zy_TA_ok zw_TA 0 rfl rfl 6 (by decide) zf_TA_19 rfl rfl (ty := zy_TA 6) (by decide +kernel) rfl rfl (Nat.le_of_ble_eq_true rfl) dTA_init_19 (ws' := [(h0, .inr (7, [.int k1, .ref q1, .int 0, .int 0, .int 0, .int 0, .int (-1 : Int32), .int 0, .int 0, .int 0])), (q1, .inl (cI, 8, .inl (fun _ => 0)))]) rfl (fun h => ?_)
  exact zk_ret h hE (fun n => [q1].getD n 0) rfl hmc (by decide) (by decide) dTA_init_22
theorem TA_init_c {l : Launch} {D : va_G} {cI cZ cT cL : ClassId} (h0 : Nat) (k1 : Int32) : zk_C l D [(cI, .int), (cZ, .boolean), (cT, .object "FrameProcessor$Task"), (cL, .long)] yTA_init (Cond.code yTA_init prog_7_method_1_code 2 none :: zt_T) { frames := 1, cells := 1, slots := 8, locals := 32 } 1 8 [.ref h0, .int k1] [(h0, .inr (7, [.int 0, .null, .int 0, .int 0, .int 0, .int 0, .int 0, .int 0, .int 0, .int 0]))] (fun f => [(h0, .inr (7, [.int k1, .ref (f 0), .int 0, .int 0, .int 0, .int 0, .int (-1 : Int32), .int 0, .int 0, .int 0])), ((f 0), .inl (cI, 8, .inl (fun _ => 0)))]) := zk_met (by decide +kernel) rfl rfl (Nat.le_of_ble_eq_true rfl) rfl (fun E A h hE hI hcs hmc => TA_init_w h0 k1 h hE hI hcs hmc)
