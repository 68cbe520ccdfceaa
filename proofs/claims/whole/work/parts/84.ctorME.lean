set_option maxRecDepth 100000 in
set_option maxHeartbeats 8000000 in
theorem ME_init_w {l : Launch} {D : va_G} {cI cZ cT cL : ClassId} {A : Nat → Prop} {E : zz_E} (h0 : Nat) (h : zz_X (zk_V l D [(cI, .int), (cZ, .boolean), (cT, .object "FrameProcessor$Task"), (cL, .long)] A [(h0, .inr (1, [.null, .null, .null, .null, .null, .null, .int 0, .int 0]))]) E "FrameProcessor$Memory" prog_4_method_1_code 2 zt_T 1 32 none) (hE : zk_E E A) (hI : zk_I E) (hcs : zz_cs E 6 3148) (hmc : E.2.2.2.2.2.2.2.2.2.2 = (6, 3148)) : zz_Z (zk_V l D [(cI, .int), (cZ, .boolean), (cT, .object "FrameProcessor$Task"), (cL, .long)] A [(h0, .inr (1, [.null, .null, .null, .null, .null, .null, .int 0, .int 0]))]) E 2 0 0 (zk_q l D E (fun f => [(h0, .inr (1, [.ref (f 0), .ref (f 1), .ref (f 2), .ref (f 3), .ref (f 4), .ref (f 5), .int 0, .int 0])), ((f 0), .inl (cI, 3072, .inl (fun _ => 0))), ((f 1), .inl (cI, 16, .inl (upd (upd (upd (upd (upd (upd (upd (upd (upd (upd (upd (upd (upd (upd (upd (upd (fun _ => 0) 0 (0 : Int32)) 1 (1 : Int32)) 2 (2 : Int32)) 3 (3 : Int32)) 4 (4 : Int32)) 5 (5 : Int32)) 6 (6 : Int32)) 7 (7 : Int32)) 8 (8 : Int32)) 9 (9 : Int32)) 10 (10 : Int32)) 11 (11 : Int32)) 12 (-1 : Int32)) 13 (-1 : Int32)) 14 (-1 : Int32)) 15 (-1 : Int32)))), ((f 2), .inl (cZ, 16, .inl (fun _ => 0))), ((f 3), .inl (cI, 12, .inl (fun _ => 0))), ((f 4), .inl (cI, 16, .inl (fun _ => 0))), ((f 5), .inl (cI, 16, .inl (fun _ => 0)))])) (some ((), ())) 0 [(0, .ref h0)] [] () := by
  refine zz_aload_n h dME_init_0 rfl ?_
  refine zk_obj h zko_ME_5 zko_i zko_c (Nat.le_of_ble_eq_true rfl) (Nat.le_of_ble_eq_true rfl) dME_init_1 ?_
  refine zz_aload_n h dME_init_4 rfl ?_
  refine zz_sipush (v := 3072) h dME_init_5 zz_ls_3072 ?_
  refine zk_newa h hE (atype := .int) (ty := .int) rfl zq_int 0 rfl (fun _ h => h) (fun _ _ h => h) (N' := 3072) (a0 := (3072, .inl (fun _ => 0))) (fun _ => rfl) (by decide) (by decide) (by decide) (zk_cs hcs (by decide) (by decide)) dME_init_8 (ws' := fun q1 => [(h0, .inr (1, [.null, .null, .null, .null, .null, .null, .int 0, .int 0])), (q1, .inl (cI, 3072, .inl (fun _ => 0)))]) (fun _ => rfl) (fun q1 h => ?_)
  refine zk_putF h hE hI zi_ME zy_ME zy_ME_ok zw_ME 0 rfl rfl 0 (by decide) zf_ME_11 rfl rfl rfl (ty := zy_ME 0) (by decide +kernel) rfl rfl (Nat.le_of_ble_eq_true rfl) dME_init_10 (ws' := [(h0, .inr (1, [.ref q1, .null, .null, .null, .null, .null, .int 0, .int 0])), (q1, .inl (cI, 3072, .inl (fun _ => 0)))]) rfl (fun h => ?_)
  refine zz_aload_n h dME_init_13 rfl ?_
  refine zz_bipush (v := 16) h dME_init_14 zz_lb_16 ?_
  refine zk_newa h hE (atype := .int) (ty := .int) rfl zq_int 0 rfl (fun _ h => h) (fun _ _ h => h) (N' := 16) (a0 := (16, .inl (fun _ => 0))) (fun _ => rfl) (by decide) (by decide) (by decide) (zk_cs hcs (by decide) (by decide)) dME_init_16 (ws' := fun q2 => [(h0, .inr (1, [.ref q1, .null, .null, .null, .null, .null, .int 0, .int 0])), (q1, .inl (cI, 3072, .inl (fun _ => 0))), (q2, .inl (cI, 16, .inl (fun _ => 0)))]) (fun _ => rfl) (fun q2 h => ?_)
  refine zk_putF h hE hI zi_ME zy_ME zy_ME_ok zw_ME 0 rfl rfl 1 (by decide) zf_ME_15 rfl rfl rfl (ty := zy_ME 1) (by decide +kernel) rfl rfl (Nat.le_of_ble_eq_true rfl) dME_init_18 (ws' := [(h0, .inr (1, [.ref q1, .ref q2, .null, .null, .null, .null, .int 0, .int 0])), (q1, .inl (cI, 3072, .inl (fun _ => 0))), (q2, .inl (cI, 16, .inl (fun _ => 0)))]) rfl (fun h => ?_)
  refine zz_aload_n h dME_init_21 rfl ?_
  refine zz_bipush (v := 16) h dME_init_22 zz_lb_16 ?_
  refine zk_newa h hE (atype := .boolean) (ty := .boolean) rfl zq_boolean 1 rfl (fun _ h => h) (fun _ _ h => h) (N' := 16) (a0 := (16, .inl (fun _ => 0))) (fun _ => rfl) (by decide) (by decide) (by decide) (zk_cs hcs (by decide) (by decide)) dME_init_24 (ws' := fun q3 => [(h0, .inr (1, [.ref q1, .ref q2, .null, .null, .null, .null, .int 0, .int 0])), (q1, .inl (cI, 3072, .inl (fun _ => 0))), (q2, .inl (cI, 16, .inl (fun _ => 0))), (q3, .inl (cZ, 16, .inl (fun _ => 0)))]) (fun _ => rfl) (fun q3 h => ?_)
  refine zk_putF h hE hI zi_ME zy_ME zy_ME_ok zw_ME 0 rfl rfl 2 (by decide) zf_ME_18 rfl rfl rfl (ty := zy_ME 2) (by decide +kernel) rfl rfl (Nat.le_of_ble_eq_true rfl) dME_init_26 (ws' := [(h0, .inr (1, [.ref q1, .ref q2, .ref q3, .null, .null, .null, .int 0, .int 0])), (q1, .inl (cI, 3072, .inl (fun _ => 0))), (q2, .inl (cI, 16, .inl (fun _ => 0))), (q3, .inl (cZ, 16, .inl (fun _ => 0)))]) rfl (fun h => ?_)
  refine zz_aload_n h dME_init_29 rfl ?_
  refine zz_bipush (v := 12) h dME_init_30 zz_lb_12 ?_
  refine zk_newa h hE (atype := .int) (ty := .int) rfl zq_int 0 rfl (fun _ h => h) (fun _ _ h => h) (N' := 12) (a0 := (12, .inl (fun _ => 0))) (fun _ => rfl) (by decide) (by decide) (by decide) (zk_cs hcs (by decide) (by decide)) dME_init_32 (ws' := fun q4 => [(h0, .inr (1, [.ref q1, .ref q2, .ref q3, .null, .null, .null, .int 0, .int 0])), (q1, .inl (cI, 3072, .inl (fun _ => 0))), (q2, .inl (cI, 16, .inl (fun _ => 0))), (q3, .inl (cZ, 16, .inl (fun _ => 0))), (q4, .inl (cI, 12, .inl (fun _ => 0)))]) (fun _ => rfl) (fun q4 h => ?_)
  refine zk_putF h hE hI zi_ME zy_ME zy_ME_ok zw_ME 0 rfl rfl 3 (by decide) zf_ME_22 rfl rfl rfl (ty := zy_ME 3) (by decide +kernel) rfl rfl (Nat.le_of_ble_eq_true rfl) dME_init_34 (ws' := [(h0, .inr (1, [.ref q1, .ref q2, .ref q3, .ref q4, .null, .null, .int 0, .int 0])), (q1, .inl (cI, 3072, .inl (fun _ => 0))), (q2, .inl (cI, 16, .inl (fun _ => 0))), (q3, .inl (cZ, 16, .inl (fun _ => 0))), (q4, .inl (cI, 12, .inl (fun _ => 0)))]) rfl (fun h => ?_)
  refine zz_aload_n h dME_init_37 rfl ?_
  refine zz_bipush (v := 16) h dME_init_38 zz_lb_16 ?_
  refine zk_newa h hE (atype := .int) (ty := .int) rfl zq_int 0 rfl (fun _ h => h) (fun _ _ h => h) (N' := 16) (a0 := (16, .inl (fun _ => 0))) (fun _ => rfl) (by decide) (by decide) (by decide) (zk_cs hcs (by decide) (by decide)) dME_init_40 (ws' := fun q5 => [(h0, .inr (1, [.ref q1, .ref q2, .ref q3, .ref q4, .null, .null, .int 0, .int 0])), (q1, .inl (cI, 3072, .inl (fun _ => 0))), (q2, .inl (cI, 16, .inl (fun _ => 0))), (q3, .inl (cZ, 16, .inl (fun _ => 0))), (q4, .inl (cI, 12, .inl (fun _ => 0))), (q5, .inl (cI, 16, .inl (fun _ => 0)))]) (fun _ => rfl) (fun q5 h => ?_)
  refine zk_putF h hE hI zi_ME zy_ME zy_ME_ok zw_ME 0 rfl rfl 4 (by decide) zf_ME_25 rfl rfl rfl (ty := zy_ME 4) (by decide +kernel) rfl rfl (Nat.le_of_ble_eq_true rfl) dME_init_42 (ws' := [(h0, .inr (1, [.ref q1, .ref q2, .ref q3, .ref q4, .ref q5, .null, .int 0, .int 0])), (q1, .inl (cI, 3072, .inl (fun _ => 0))), (q2, .inl (cI, 16, .inl (fun _ => 0))), (q3, .inl (cZ, 16, .inl (fun _ => 0))), (q4, .inl (cI, 12, .inl (fun _ => 0))), (q5, .inl (cI, 16, .inl (fun _ => 0)))]) rfl (fun h => ?_)
  refine zz_aload_n h dME_init_45 rfl ?_
  refine zz_bipush (v := 16) h dME_init_46 zz_lb_16 ?_
  refine zk_newa h hE (atype := .int) (ty := .int) rfl zq_int 0 rfl (fun _ h => h) (fun _ _ h => h) (N' := 16) (a0 := (16, .inl (fun _ => 0))) (fun _ => rfl) (by decide) (by decide) (by decide) (zk_cs hcs (by decide) (by decide)) dME_init_48 (ws' := fun q6 => [(h0, .inr (1, [.ref q1, .ref q2, .ref q3, .ref q4, .ref q5, .null, .int 0, .int 0])), (q1, .inl (cI, 3072, .inl (fun _ => 0))), (q2, .inl (cI, 16, .inl (fun _ => 0))), (q3, .inl (cZ, 16, .inl (fun _ => 0))), (q4, .inl (cI, 12, .inl (fun _ => 0))), (q5, .inl (cI, 16, .inl (fun _ => 0))), (q6, .inl (cI, 16, .inl (fun _ => 0)))]) (fun _ => rfl) (fun q6 h => ?_)
  refine zk_putF h hE hI zi_ME zy_ME zy_ME_ok zw_ME 0 rfl rfl 5 (by decide) zf_ME_28 rfl rfl rfl (ty := zy_ME 5) (by decide +kernel) rfl rfl (Nat.le_of_ble_eq_true rfl) dME_init_50 (ws' := [(h0, .inr (1, [.ref q1, .ref q2, .ref q3, .ref q4, .ref q5, .ref q6, .int 0, .int 0])), (q1, .inl (cI, 3072, .inl (fun _ => 0))), (q2, .inl (cI, 16, .inl (fun _ => 0))), (q3, .inl (cZ, 16, .inl (fun _ => 0))), (q4, .inl (cI, 12, .inl (fun _ => 0))), (q5, .inl (cI, 16, .inl (fun _ => 0))), (q6, .inl (cI, 16, .inl (fun _ => 0)))]) rfl (fun h => ?_)
  refine zz_iconst (v := 0) h dME_init_53 zz_li_0 ?_
  refine zz_istore_n h dME_init_54 (Nat.le_of_ble_eq_true rfl) ?_
  refine zz_iload_n h dME_init_55 rfl ?_
  refine zz_bipush (v := 16) h dME_init_56 zz_lb_16 ?_
  refine zk_geF h 84 dME_init_58 rfl (by decide) ?_
  refine zz_aload_n h dME_init_61 rfl ?_
  refine zz_get h zi_ME 0 rfl rfl 1 (by decide) zf_ME_15 rfl rfl dME_init_62 ?_
  refine zz_iload_n h dME_init_65 rfl ?_
  refine zz_iload_n h dME_init_66 rfl ?_
  refine zz_bipush (v := 12) h dME_init_67 zz_lb_12 ?_
  refine zk_geF h 76 dME_init_69 rfl (by decide) ?_
  refine zz_iload_n h dME_init_72 rfl ?_
  refine zz_goto h 77 dME_init_73 rfl ?_
  refine zk_iast h hE 2 0 rfl rfl (by decide) dME_init_77 (ws' := [(h0, .inr (1, [.ref q1, .ref q2, .ref q3, .ref q4, .ref q5, .ref q6, .int 0, .int 0])), (q1, .inl (cI, 3072, .inl (fun _ => 0))), (q2, .inl (cI, 16, .inl (upd (fun _ => 0) 0 (0 : Int32)))), (q3, .inl (cZ, 16, .inl (fun _ => 0))), (q4, .inl (cI, 12, .inl (fun _ => 0))), (q5, .inl (cI, 16, .inl (fun _ => 0))), (q6, .inl (cI, 16, .inl (fun _ => 0)))]) rfl (fun h => ?_)
  refine zk_iinc h (1 : Int32) dME_init_78 rfl (by decide) (Nat.le_of_ble_eq_true rfl) ?_
  refine zz_goto h 55 dME_init_81 rfl ?_
  refine zz_iload_n h dME_init_55 rfl ?_
  refine zz_bipush (v := 16) h dME_init_56 zz_lb_16 ?_
  refine zk_geF h 84 dME_init_58 rfl (by decide) ?_
  refine zz_aload_n h dME_init_61 rfl ?_
  refine zz_get h zi_ME 0 rfl rfl 1 (by decide) zf_ME_15 rfl rfl dME_init_62 ?_
  refine zz_iload_n h dME_init_65 rfl ?_
  refine zz_iload_n h dME_init_66 rfl ?_
  refine zz_bipush (v := 12) h dME_init_67 zz_lb_12 ?_
  refine zk_geF h 76 dME_init_69 rfl (by decide) ?_
  refine zz_iload_n h dME_init_72 rfl ?_
  refine zz_goto h 77 dME_init_73 rfl ?_
  refine zk_iast h hE 2 0 rfl rfl (by decide) dME_init_77 (ws' := [(h0, .inr (1, [.ref q1, .ref q2, .ref q3, .ref q4, .ref q5, .ref q6, .int 0, .int 0])), (q1, .inl (cI, 3072, .inl (fun _ => 0))), (q2, .inl (cI, 16, .inl (upd (upd (fun _ => 0) 0 (0 : Int32)) 1 (1 : Int32)))), (q3, .inl (cZ, 16, .inl (fun _ => 0))), (q4, .inl (cI, 12, .inl (fun _ => 0))), (q5, .inl (cI, 16, .inl (fun _ => 0))), (q6, .inl (cI, 16, .inl (fun _ => 0)))]) rfl (fun h => ?_)
  refine zk_iinc h (2 : Int32) dME_init_78 rfl (by decide) (Nat.le_of_ble_eq_true rfl) ?_
  refine zz_goto h 55 dME_init_81 rfl ?_
  refine zz_iload_n h dME_init_55 rfl ?_
  refine zz_bipush (v := 16) h dME_init_56 zz_lb_16 ?_
  refine zk_geF h 84 dME_init_58 rfl (by decide) ?_
  refine zz_aload_n h dME_init_61 rfl ?_
  refine zz_get h zi_ME 0 rfl rfl 1 (by decide) zf_ME_15 rfl rfl dME_init_62 ?_
  refine zz_iload_n h dME_init_65 rfl ?_
  refine zz_iload_n h dME_init_66 rfl ?_
  refine zz_bipush (v := 12) h dME_init_67 zz_lb_12 ?_
  refine zk_geF h 76 dME_init_69 rfl (by decide) ?_
  refine zz_iload_n h dME_init_72 rfl ?_
  refine zz_goto h 77 dME_init_73 rfl ?_
  refine zk_iast h hE 2 0 rfl rfl (by decide) dME_init_77 (ws' := [(h0, .inr (1, [.ref q1, .ref q2, .ref q3, .ref q4, .ref q5, .ref q6, .int 0, .int 0])), (q1, .inl (cI, 3072, .inl (fun _ => 0))), (q2, .inl (cI, 16, .inl (upd (upd (upd (fun _ => 0) 0 (0 : Int32)) 1 (1 : Int32)) 2 (2 : Int32)))), (q3, .inl (cZ, 16, .inl (fun _ => 0))), (q4, .inl (cI, 12, .inl (fun _ => 0))), (q5, .inl (cI, 16, .inl (fun _ => 0))), (q6, .inl (cI, 16, .inl (fun _ => 0)))]) rfl (fun h => ?_)
  refine zk_iinc h (3 : Int32) dME_init_78 rfl (by decide) (Nat.le_of_ble_eq_true rfl) ?_
  refine zz_goto h 55 dME_init_81 rfl ?_
  refine zz_iload_n h dME_init_55 rfl ?_
  refine zz_bipush (v := 16) h dME_init_56 zz_lb_16 ?_
  refine zk_geF h 84 dME_init_58 rfl (by decide) ?_
  refine zz_aload_n h dME_init_61 rfl ?_
  refine zz_get h zi_ME 0 rfl rfl 1 (by decide) zf_ME_15 rfl rfl dME_init_62 ?_
  refine zz_iload_n h dME_init_65 rfl ?_
  refine zz_iload_n h dME_init_66 rfl ?_
  refine zz_bipush (v := 12) h dME_init_67 zz_lb_12 ?_
  refine zk_geF h 76 dME_init_69 rfl (by decide) ?_
  refine zz_iload_n h dME_init_72 rfl ?_
  refine zz_goto h 77 dME_init_73 rfl ?_
  refine zk_iast h hE 2 0 rfl rfl (by decide) dME_init_77 (ws' := [(h0, .inr (1, [.ref q1, .ref q2, .ref q3, .ref q4, .ref q5, .ref q6, .int 0, .int 0])), (q1, .inl (cI, 3072, .inl (fun _ => 0))), (q2, .inl (cI, 16, .inl (upd (upd (upd (upd (fun _ => 0) 0 (0 : Int32)) 1 (1 : Int32)) 2 (2 : Int32)) 3 (3 : Int32)))), (q3, .inl (cZ, 16, .inl (fun _ => 0))), (q4, .inl (cI, 12, .inl (fun _ => 0))), (q5, .inl (cI, 16, .inl (fun _ => 0))), (q6, .inl (cI, 16, .inl (fun _ => 0)))]) rfl (fun h => ?_)
  refine zk_iinc h (4 : Int32) dME_init_78 rfl (by decide) (Nat.le_of_ble_eq_true rfl) ?_
  refine zz_goto h 55 dME_init_81 rfl ?_
  refine zz_iload_n h dME_init_55 rfl ?_
  refine zz_bipush (v := 16) h dME_init_56 zz_lb_16 ?_
  refine zk_geF h 84 dME_init_58 rfl (by decide) ?_
  refine zz_aload_n h dME_init_61 rfl ?_
  refine zz_get h zi_ME 0 rfl rfl 1 (by decide) zf_ME_15 rfl rfl dME_init_62 ?_
  refine zz_iload_n h dME_init_65 rfl ?_
  refine zz_iload_n h dME_init_66 rfl ?_
  refine zz_bipush (v := 12) h dME_init_67 zz_lb_12 ?_
  refine zk_geF h 76 dME_init_69 rfl (by decide) ?_
  refine zz_iload_n h dME_init_72 rfl ?_
  refine zz_goto h 77 dME_init_73 rfl ?_
  refine zk_iast h hE 2 0 rfl rfl (by decide) dME_init_77 (ws' := [(h0, .inr (1, [.ref q1, .ref q2, .ref q3, .ref q4, .ref q5, .ref q6, .int 0, .int 0])), (q1, .inl (cI, 3072, .inl (fun _ => 0))), (q2, .inl (cI, 16, .inl (upd (upd (upd (upd (upd (fun _ => 0) 0 (0 : Int32)) 1 (1 : Int32)) 2 (2 : Int32)) 3 (3 : Int32)) 4 (4 : Int32)))), (q3, .inl (cZ, 16, .inl (fun _ => 0))), (q4, .inl (cI, 12, .inl (fun _ => 0))), (q5, .inl (cI, 16, .inl (fun _ => 0))), (q6, .inl (cI, 16, .inl (fun _ => 0)))]) rfl (fun h => ?_)
  refine zk_iinc h (5 : Int32) dME_init_78 rfl (by decide) (Nat.le_of_ble_eq_true rfl) ?_
  refine zz_goto h 55 dME_init_81 rfl ?_
  refine zz_iload_n h dME_init_55 rfl ?_
  refine zz_bipush (v := 16) h dME_init_56 zz_lb_16 ?_
  refine zk_geF h 84 dME_init_58 rfl (by decide) ?_
  refine zz_aload_n h dME_init_61 rfl ?_
  refine zz_get h zi_ME 0 rfl rfl 1 (by decide) zf_ME_15 rfl rfl dME_init_62 ?_
  refine zz_iload_n h dME_init_65 rfl ?_
  refine zz_iload_n h dME_init_66 rfl ?_
  refine zz_bipush (v := 12) h dME_init_67 zz_lb_12 ?_
  refine zk_geF h 76 dME_init_69 rfl (by decide) ?_
  refine zz_iload_n h dME_init_72 rfl ?_
  refine zz_goto h 77 dME_init_73 rfl ?_
  refine zk_iast h hE 2 0 rfl rfl (by decide) dME_init_77 (ws' := [(h0, .inr (1, [.ref q1, .ref q2, .ref q3, .ref q4, .ref q5, .ref q6, .int 0, .int 0])), (q1, .inl (cI, 3072, .inl (fun _ => 0))), (q2, .inl (cI, 16, .inl (upd (upd (upd (upd (upd (upd (fun _ => 0) 0 (0 : Int32)) 1 (1 : Int32)) 2 (2 : Int32)) 3 (3 : Int32)) 4 (4 : Int32)) 5 (5 : Int32)))), (q3, .inl (cZ, 16, .inl (fun _ => 0))), (q4, .inl (cI, 12, .inl (fun _ => 0))), (q5, .inl (cI, 16, .inl (fun _ => 0))), (q6, .inl (cI, 16, .inl (fun _ => 0)))]) rfl (fun h => ?_)
  refine zk_iinc h (6 : Int32) dME_init_78 rfl (by decide) (Nat.le_of_ble_eq_true rfl) ?_
  refine zz_goto h 55 dME_init_81 rfl ?_
  refine zz_iload_n h dME_init_55 rfl ?_
  refine zz_bipush (v := 16) h dME_init_56 zz_lb_16 ?_
  refine zk_geF h 84 dME_init_58 rfl (by decide) ?_
  refine zz_aload_n h dME_init_61 rfl ?_
  refine zz_get h zi_ME 0 rfl rfl 1 (by decide) zf_ME_15 rfl rfl dME_init_62 ?_
  refine zz_iload_n h dME_init_65 rfl ?_
  refine zz_iload_n h dME_init_66 rfl ?_
  refine zz_bipush (v := 12) h dME_init_67 zz_lb_12 ?_
  refine zk_geF h 76 dME_init_69 rfl (by decide) ?_
  refine zz_iload_n h dME_init_72 rfl ?_
  refine zz_goto h 77 dME_init_73 rfl ?_
  refine zk_iast h hE 2 0 rfl rfl (by decide) dME_init_77 (ws' := [(h0, .inr (1, [.ref q1, .ref q2, .ref q3, .ref q4, .ref q5, .ref q6, .int 0, .int 0])), (q1, .inl (cI, 3072, .inl (fun _ => 0))), (q2, .inl (cI, 16, .inl (upd (upd (upd (upd (upd (upd (upd (fun _ => 0) 0 (0 : Int32)) 1 (1 : Int32)) 2 (2 : Int32)) 3 (3 : Int32)) 4 (4 : Int32)) 5 (5 : Int32)) 6 (6 : Int32)))), (q3, .inl (cZ, 16, .inl (fun _ => 0))), (q4, .inl (cI, 12, .inl (fun _ => 0))), (q5, .inl (cI, 16, .inl (fun _ => 0))), (q6, .inl (cI, 16, .inl (fun _ => 0)))]) rfl (fun h => ?_)
  refine zk_iinc h (7 : Int32) dME_init_78 rfl (by decide) (Nat.le_of_ble_eq_true rfl) ?_
  refine zz_goto h 55 dME_init_81 rfl ?_
  refine zz_iload_n h dME_init_55 rfl ?_
  refine zz_bipush (v := 16) h dME_init_56 zz_lb_16 ?_
  refine zk_geF h 84 dME_init_58 rfl (by decide) ?_
  refine zz_aload_n h dME_init_61 rfl ?_
  refine zz_get h zi_ME 0 rfl rfl 1 (by decide) zf_ME_15 rfl rfl dME_init_62 ?_
  refine zz_iload_n h dME_init_65 rfl ?_
  refine zz_iload_n h dME_init_66 rfl ?_
  refine zz_bipush (v := 12) h dME_init_67 zz_lb_12 ?_
  refine zk_geF h 76 dME_init_69 rfl (by decide) ?_
  refine zz_iload_n h dME_init_72 rfl ?_
  refine zz_goto h 77 dME_init_73 rfl ?_
  refine zk_iast h hE 2 0 rfl rfl (by decide) dME_init_77 (ws' := [(h0, .inr (1, [.ref q1, .ref q2, .ref q3, .ref q4, .ref q5, .ref q6, .int 0, .int 0])), (q1, .inl (cI, 3072, .inl (fun _ => 0))), (q2, .inl (cI, 16, .inl (upd (upd (upd (upd (upd (upd (upd (upd (fun _ => 0) 0 (0 : Int32)) 1 (1 : Int32)) 2 (2 : Int32)) 3 (3 : Int32)) 4 (4 : Int32)) 5 (5 : Int32)) 6 (6 : Int32)) 7 (7 : Int32)))), (q3, .inl (cZ, 16, .inl (fun _ => 0))), (q4, .inl (cI, 12, .inl (fun _ => 0))), (q5, .inl (cI, 16, .inl (fun _ => 0))), (q6, .inl (cI, 16, .inl (fun _ => 0)))]) rfl (fun h => ?_)
  refine zk_iinc h (8 : Int32) dME_init_78 rfl (by decide) (Nat.le_of_ble_eq_true rfl) ?_
  refine zz_goto h 55 dME_init_81 rfl ?_
  refine zz_iload_n h dME_init_55 rfl ?_
  refine zz_bipush (v := 16) h dME_init_56 zz_lb_16 ?_
  refine zk_geF h 84 dME_init_58 rfl (by decide) ?_
  refine zz_aload_n h dME_init_61 rfl ?_
  refine zz_get h zi_ME 0 rfl rfl 1 (by decide) zf_ME_15 rfl rfl dME_init_62 ?_
  refine zz_iload_n h dME_init_65 rfl ?_
  refine zz_iload_n h dME_init_66 rfl ?_
  refine zz_bipush (v := 12) h dME_init_67 zz_lb_12 ?_
  refine zk_geF h 76 dME_init_69 rfl (by decide) ?_
  refine zz_iload_n h dME_init_72 rfl ?_
  refine zz_goto h 77 dME_init_73 rfl ?_
  refine zk_iast h hE 2 0 rfl rfl (by decide) dME_init_77 (ws' := [(h0, .inr (1, [.ref q1, .ref q2, .ref q3, .ref q4, .ref q5, .ref q6, .int 0, .int 0])), (q1, .inl (cI, 3072, .inl (fun _ => 0))), (q2, .inl (cI, 16, .inl (upd (upd (upd (upd (upd (upd (upd (upd (upd (fun _ => 0) 0 (0 : Int32)) 1 (1 : Int32)) 2 (2 : Int32)) 3 (3 : Int32)) 4 (4 : Int32)) 5 (5 : Int32)) 6 (6 : Int32)) 7 (7 : Int32)) 8 (8 : Int32)))), (q3, .inl (cZ, 16, .inl (fun _ => 0))), (q4, .inl (cI, 12, .inl (fun _ => 0))), (q5, .inl (cI, 16, .inl (fun _ => 0))), (q6, .inl (cI, 16, .inl (fun _ => 0)))]) rfl (fun h => ?_)
  refine zk_iinc h (9 : Int32) dME_init_78 rfl (by decide) (Nat.le_of_ble_eq_true rfl) ?_
  refine zz_goto h 55 dME_init_81 rfl ?_
  refine zz_iload_n h dME_init_55 rfl ?_
  refine zz_bipush (v := 16) h dME_init_56 zz_lb_16 ?_
  refine zk_geF h 84 dME_init_58 rfl (by decide) ?_
  refine zz_aload_n h dME_init_61 rfl ?_
  refine zz_get h zi_ME 0 rfl rfl 1 (by decide) zf_ME_15 rfl rfl dME_init_62 ?_
  refine zz_iload_n h dME_init_65 rfl ?_
  refine zz_iload_n h dME_init_66 rfl ?_
  refine zz_bipush (v := 12) h dME_init_67 zz_lb_12 ?_
  refine zk_geF h 76 dME_init_69 rfl (by decide) ?_
  refine zz_iload_n h dME_init_72 rfl ?_
  refine zz_goto h 77 dME_init_73 rfl ?_
  refine zk_iast h hE 2 0 rfl rfl (by decide) dME_init_77 (ws' := [(h0, .inr (1, [.ref q1, .ref q2, .ref q3, .ref q4, .ref q5, .ref q6, .int 0, .int 0])), (q1, .inl (cI, 3072, .inl (fun _ => 0))), (q2, .inl (cI, 16, .inl (upd (upd (upd (upd (upd (upd (upd (upd (upd (upd (fun _ => 0) 0 (0 : Int32)) 1 (1 : Int32)) 2 (2 : Int32)) 3 (3 : Int32)) 4 (4 : Int32)) 5 (5 : Int32)) 6 (6 : Int32)) 7 (7 : Int32)) 8 (8 : Int32)) 9 (9 : Int32)))), (q3, .inl (cZ, 16, .inl (fun _ => 0))), (q4, .inl (cI, 12, .inl (fun _ => 0))), (q5, .inl (cI, 16, .inl (fun _ => 0))), (q6, .inl (cI, 16, .inl (fun _ => 0)))]) rfl (fun h => ?_)
  refine zk_iinc h (10 : Int32) dME_init_78 rfl (by decide) (Nat.le_of_ble_eq_true rfl) ?_
  refine zz_goto h 55 dME_init_81 rfl ?_
  refine zz_iload_n h dME_init_55 rfl ?_
  refine zz_bipush (v := 16) h dME_init_56 zz_lb_16 ?_
  refine zk_geF h 84 dME_init_58 rfl (by decide) ?_
  refine zz_aload_n h dME_init_61 rfl ?_
  refine zz_get h zi_ME 0 rfl rfl 1 (by decide) zf_ME_15 rfl rfl dME_init_62 ?_
  refine zz_iload_n h dME_init_65 rfl ?_
  refine zz_iload_n h dME_init_66 rfl ?_
  refine zz_bipush (v := 12) h dME_init_67 zz_lb_12 ?_
  refine zk_geF h 76 dME_init_69 rfl (by decide) ?_
  refine zz_iload_n h dME_init_72 rfl ?_
  refine zz_goto h 77 dME_init_73 rfl ?_
  refine zk_iast h hE 2 0 rfl rfl (by decide) dME_init_77 (ws' := [(h0, .inr (1, [.ref q1, .ref q2, .ref q3, .ref q4, .ref q5, .ref q6, .int 0, .int 0])), (q1, .inl (cI, 3072, .inl (fun _ => 0))), (q2, .inl (cI, 16, .inl (upd (upd (upd (upd (upd (upd (upd (upd (upd (upd (upd (fun _ => 0) 0 (0 : Int32)) 1 (1 : Int32)) 2 (2 : Int32)) 3 (3 : Int32)) 4 (4 : Int32)) 5 (5 : Int32)) 6 (6 : Int32)) 7 (7 : Int32)) 8 (8 : Int32)) 9 (9 : Int32)) 10 (10 : Int32)))), (q3, .inl (cZ, 16, .inl (fun _ => 0))), (q4, .inl (cI, 12, .inl (fun _ => 0))), (q5, .inl (cI, 16, .inl (fun _ => 0))), (q6, .inl (cI, 16, .inl (fun _ => 0)))]) rfl (fun h => ?_)
  refine zk_iinc h (11 : Int32) dME_init_78 rfl (by decide) (Nat.le_of_ble_eq_true rfl) ?_
  refine zz_goto h 55 dME_init_81 rfl ?_
  refine zz_iload_n h dME_init_55 rfl ?_
  refine zz_bipush (v := 16) h dME_init_56 zz_lb_16 ?_
  refine zk_geF h 84 dME_init_58 rfl (by decide) ?_
  refine zz_aload_n h dME_init_61 rfl ?_
  refine zz_get h zi_ME 0 rfl rfl 1 (by decide) zf_ME_15 rfl rfl dME_init_62 ?_
  refine zz_iload_n h dME_init_65 rfl ?_
  refine zz_iload_n h dME_init_66 rfl ?_
  refine zz_bipush (v := 12) h dME_init_67 zz_lb_12 ?_
  refine zk_geF h 76 dME_init_69 rfl (by decide) ?_
  refine zz_iload_n h dME_init_72 rfl ?_
  refine zz_goto h 77 dME_init_73 rfl ?_
  refine zk_iast h hE 2 0 rfl rfl (by decide) dME_init_77 (ws' := [(h0, .inr (1, [.ref q1, .ref q2, .ref q3, .ref q4, .ref q5, .ref q6, .int 0, .int 0])), (q1, .inl (cI, 3072, .inl (fun _ => 0))), (q2, .inl (cI, 16, .inl (upd (upd (upd (upd (upd (upd (upd (upd (upd (upd (upd (upd (fun _ => 0) 0 (0 : Int32)) 1 (1 : Int32)) 2 (2 : Int32)) 3 (3 : Int32)) 4 (4 : Int32)) 5 (5 : Int32)) 6 (6 : Int32)) 7 (7 : Int32)) 8 (8 : Int32)) 9 (9 : Int32)) 10 (10 : Int32)) 11 (11 : Int32)))), (q3, .inl (cZ, 16, .inl (fun _ => 0))), (q4, .inl (cI, 12, .inl (fun _ => 0))), (q5, .inl (cI, 16, .inl (fun _ => 0))), (q6, .inl (cI, 16, .inl (fun _ => 0)))]) rfl (fun h => ?_)
  refine zk_iinc h (12 : Int32) dME_init_78 rfl (by decide) (Nat.le_of_ble_eq_true rfl) ?_
  refine zz_goto h 55 dME_init_81 rfl ?_
  refine zz_iload_n h dME_init_55 rfl ?_
  refine zz_bipush (v := 16) h dME_init_56 zz_lb_16 ?_
  refine zk_geF h 84 dME_init_58 rfl (by decide) ?_
  refine zz_aload_n h dME_init_61 rfl ?_
  refine zz_get h zi_ME 0 rfl rfl 1 (by decide) zf_ME_15 rfl rfl dME_init_62 ?_
  refine zz_iload_n h dME_init_65 rfl ?_
  refine zz_iload_n h dME_init_66 rfl ?_
  refine zz_bipush (v := 12) h dME_init_67 zz_lb_12 ?_
  refine zk_geT h 76 dME_init_69 rfl (by decide) ?_
  refine zz_iconst (v := -1) h dME_init_76 zz_li_m1 ?_
  refine zk_iast h hE 2 0 rfl rfl (by decide) dME_init_77 (ws' := [(h0, .inr (1, [.ref q1, .ref q2, .ref q3, .ref q4, .ref q5, .ref q6, .int 0, .int 0])), (q1, .inl (cI, 3072, .inl (fun _ => 0))), (q2, .inl (cI, 16, .inl (upd (upd (upd (upd (upd (upd (upd (upd (upd (upd (upd (upd (upd (fun _ => 0) 0 (0 : Int32)) 1 (1 : Int32)) 2 (2 : Int32)) 3 (3 : Int32)) 4 (4 : Int32)) 5 (5 : Int32)) 6 (6 : Int32)) 7 (7 : Int32)) 8 (8 : Int32)) 9 (9 : Int32)) 10 (10 : Int32)) 11 (11 : Int32)) 12 (-1 : Int32)))), (q3, .inl (cZ, 16, .inl (fun _ => 0))), (q4, .inl (cI, 12, .inl (fun _ => 0))), (q5, .inl (cI, 16, .inl (fun _ => 0))), (q6, .inl (cI, 16, .inl (fun _ => 0)))]) rfl (fun h => ?_)
  refine zk_iinc h (13 : Int32) dME_init_78 rfl (by decide) (Nat.le_of_ble_eq_true rfl) ?_
  refine zz_goto h 55 dME_init_81 rfl ?_
  refine zz_iload_n h dME_init_55 rfl ?_
  refine zz_bipush (v := 16) h dME_init_56 zz_lb_16 ?_
  refine zk_geF h 84 dME_init_58 rfl (by decide) ?_
  refine zz_aload_n h dME_init_61 rfl ?_
  refine zz_get h zi_ME 0 rfl rfl 1 (by decide) zf_ME_15 rfl rfl dME_init_62 ?_
  refine zz_iload_n h dME_init_65 rfl ?_
  refine zz_iload_n h dME_init_66 rfl ?_
  refine zz_bipush (v := 12) h dME_init_67 zz_lb_12 ?_
  refine zk_geT h 76 dME_init_69 rfl (by decide) ?_
  refine zz_iconst (v := -1) h dME_init_76 zz_li_m1 ?_
  refine zk_iast h hE 2 0 rfl rfl (by decide) dME_init_77 (ws' := [(h0, .inr (1, [.ref q1, .ref q2, .ref q3, .ref q4, .ref q5, .ref q6, .int 0, .int 0])), (q1, .inl (cI, 3072, .inl (fun _ => 0))), (q2, .inl (cI, 16, .inl (upd (upd (upd (upd (upd (upd (upd (upd (upd (upd (upd (upd (upd (upd (fun _ => 0) 0 (0 : Int32)) 1 (1 : Int32)) 2 (2 : Int32)) 3 (3 : Int32)) 4 (4 : Int32)) 5 (5 : Int32)) 6 (6 : Int32)) 7 (7 : Int32)) 8 (8 : Int32)) 9 (9 : Int32)) 10 (10 : Int32)) 11 (11 : Int32)) 12 (-1 : Int32)) 13 (-1 : Int32)))), (q3, .inl (cZ, 16, .inl (fun _ => 0))), (q4, .inl (cI, 12, .inl (fun _ => 0))), (q5, .inl (cI, 16, .inl (fun _ => 0))), (q6, .inl (cI, 16, .inl (fun _ => 0)))]) rfl (fun h => ?_)
  refine zk_iinc h (14 : Int32) dME_init_78 rfl (by decide) (Nat.le_of_ble_eq_true rfl) ?_
  refine zz_goto h 55 dME_init_81 rfl ?_
  refine zz_iload_n h dME_init_55 rfl ?_
  refine zz_bipush (v := 16) h dME_init_56 zz_lb_16 ?_
  refine zk_geF h 84 dME_init_58 rfl (by decide) ?_
  refine zz_aload_n h dME_init_61 rfl ?_
  refine zz_get h zi_ME 0 rfl rfl 1 (by decide) zf_ME_15 rfl rfl dME_init_62 ?_
  refine zz_iload_n h dME_init_65 rfl ?_
  refine zz_iload_n h dME_init_66 rfl ?_
  refine zz_bipush (v := 12) h dME_init_67 zz_lb_12 ?_
  refine zk_geT h 76 dME_init_69 rfl (by decide) ?_
  refine zz_iconst (v := -1) h dME_init_76 zz_li_m1 ?_
  refine zk_iast h hE 2 0 rfl rfl (by decide) dME_init_77 (ws' := [(h0, .inr (1, [.ref q1, .ref q2, .ref q3, .ref q4, .ref q5, .ref q6, .int 0, .int 0])), (q1, .inl (cI, 3072, .inl (fun _ => 0))), (q2, .inl (cI, 16, .inl (upd (upd (upd (upd (upd (upd (upd (upd (upd (upd (upd (upd (upd (upd (upd (fun _ => 0) 0 (0 : Int32)) 1 (1 : Int32)) 2 (2 : Int32)) 3 (3 : Int32)) 4 (4 : Int32)) 5 (5 : Int32)) 6 (6 : Int32)) 7 (7 : Int32)) 8 (8 : Int32)) 9 (9 : Int32)) 10 (10 : Int32)) 11 (11 : Int32)) 12 (-1 : Int32)) 13 (-1 : Int32)) 14 (-1 : Int32)))), (q3, .inl (cZ, 16, .inl (fun _ => 0))), (q4, .inl (cI, 12, .inl (fun _ => 0))), (q5, .inl (cI, 16, .inl (fun _ => 0))), (q6, .inl (cI, 16, .inl (fun _ => 0)))]) rfl (fun h => ?_)
  refine zk_iinc h (15 : Int32) dME_init_78 rfl (by decide) (Nat.le_of_ble_eq_true rfl) ?_
  refine zz_goto h 55 dME_init_81 rfl ?_
  refine zz_iload_n h dME_init_55 rfl ?_
  refine zz_bipush (v := 16) h dME_init_56 zz_lb_16 ?_
  refine zk_geF h 84 dME_init_58 rfl (by decide) ?_
  refine zz_aload_n h dME_init_61 rfl ?_
  refine zz_get h zi_ME 0 rfl rfl 1 (by decide) zf_ME_15 rfl rfl dME_init_62 ?_
  refine zz_iload_n h dME_init_65 rfl ?_
  refine zz_iload_n h dME_init_66 rfl ?_
  refine zz_bipush (v := 12) h dME_init_67 zz_lb_12 ?_
  refine zk_geT h 76 dME_init_69 rfl (by decide) ?_
  refine zz_iconst (v := -1) h dME_init_76 zz_li_m1 ?_
  refine zk_iast h hE 2 0 rfl rfl (by decide) dME_init_77 (ws' := [(h0, .inr (1, [.ref q1, .ref q2, .ref q3, .ref q4, .ref q5, .ref q6, .int 0, .int 0])), (q1, .inl (cI, 3072, .inl (fun _ => 0))), (q2, .inl (cI, 16, .inl (upd (upd (upd (upd (upd (upd (upd (upd (upd (upd (upd (upd (upd (upd (upd (upd (fun _ => 0) 0 (0 : Int32)) 1 (1 : Int32)) 2 (2 : Int32)) 3 (3 : Int32)) 4 (4 : Int32)) 5 (5 : Int32)) 6 (6 : Int32)) 7 (7 : Int32)) 8 (8 : Int32)) 9 (9 : Int32)) 10 (10 : Int32)) 11 (11 : Int32)) 12 (-1 : Int32)) 13 (-1 : Int32)) 14 (-1 : Int32)) 15 (-1 : Int32)))), (q3, .inl (cZ, 16, .inl (fun _ => 0))), (q4, .inl (cI, 12, .inl (fun _ => 0))), (q5, .inl (cI, 16, .inl (fun _ => 0))), (q6, .inl (cI, 16, .inl (fun _ => 0)))]) rfl (fun h => ?_)
  refine zk_iinc h (16 : Int32) dME_init_78 rfl (by decide) (Nat.le_of_ble_eq_true rfl) ?_
  refine zz_goto h 55 dME_init_81 rfl ?_
  refine zz_iload_n h dME_init_55 rfl ?_
  refine zz_bipush (v := 16) h dME_init_56 zz_lb_16 ?_
  refine zk_geT h 84 dME_init_58 rfl (by decide) ?_
  exact zk_ret h hE (fun n => [q1, q2, q3, q4, q5, q6].getD n 0) rfl hmc (by decide) (by decide) dME_init_84
theorem ME_init_c {l : Launch} {D : va_G} {cI cZ cT cL : ClassId} (h0 : Nat) : zk_C l D [(cI, .int), (cZ, .boolean), (cT, .object "FrameProcessor$Task"), (cL, .long)] yME_init (Cond.code yME_init prog_4_method_1_code 2 none :: zt_T) { frames := 1, cells := 6, slots := 3148, locals := 32 } 6 3148 [.ref h0] [(h0, .inr (1, [.null, .null, .null, .null, .null, .null, .int 0, .int 0]))] (fun f => [(h0, .inr (1, [.ref (f 0), .ref (f 1), .ref (f 2), .ref (f 3), .ref (f 4), .ref (f 5), .int 0, .int 0])), ((f 0), .inl (cI, 3072, .inl (fun _ => 0))), ((f 1), .inl (cI, 16, .inl (upd (upd (upd (upd (upd (upd (upd (upd (upd (upd (upd (upd (upd (upd (upd (upd (fun _ => 0) 0 (0 : Int32)) 1 (1 : Int32)) 2 (2 : Int32)) 3 (3 : Int32)) 4 (4 : Int32)) 5 (5 : Int32)) 6 (6 : Int32)) 7 (7 : Int32)) 8 (8 : Int32)) 9 (9 : Int32)) 10 (10 : Int32)) 11 (11 : Int32)) 12 (-1 : Int32)) 13 (-1 : Int32)) 14 (-1 : Int32)) 15 (-1 : Int32)))), ((f 2), .inl (cZ, 16, .inl (fun _ => 0))), ((f 3), .inl (cI, 12, .inl (fun _ => 0))), ((f 4), .inl (cI, 16, .inl (fun _ => 0))), ((f 5), .inl (cI, 16, .inl (fun _ => 0)))]) := zk_met (by decide +kernel) rfl rfl (Nat.le_of_ble_eq_true rfl) rfl (fun E A h hE hI hcs hmc => ME_init_w h0 h hE hI hcs hmc)
