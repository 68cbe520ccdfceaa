def zl_fin {α : Type} (E : zz_E) (b : Nat) (o : Int32 × α) : State → Prop := match E with
  | (_, _, _, s, _, _, below, _, _, _, _, _) => fun t => o.1 = 1 → lw_Z below #[Value.ref b] s t
def zl_scr (E : zz_E) (b L : Nat) (xs : Nat → Int32) : Prop := match E with
  | (_, _, _, s, _, _, _, _, _, A, _, _) => va_X b L xs s s.heap ∧ b < s.heap.size ∧ ¬ A b
def zl_E (E : zz_E) (b : Nat) : Prop := match E with
  | (_, _, R, s, _, args, _, meth, _, A, _, _) => R = room_1 ∧ args = #[Value.ref b] ∧ (∀ q, A q → s.heap.size ≤ q) ∧ meth.sig.returnType = ret
theorem zz_cs0 {E : zz_E} {c s : Nat} (h : zz_cs E (c + 1) (s + 6)) : zz_cs E c s := ⟨Nat.le_trans (Nat.le_add_right _ 1) h.1, Nat.le_trans (Nat.le_add_right _ 6) h.2⟩
section ZLL
variable {σ α : Type} {V : zz_V σ} {E : zz_E} {own : String} {cc : ByteArray} {nL F K cn sn : Nat} {Ts : List Cond} {rt : Option FieldType} {inj : α × σ → State → Prop} {k : Option (α × σ)} {pc : Nat} {Lc : List (Nat × Value)} {stk : List Value} {st : σ} {b L : Nat} {xs : Nat → Int32}
theorem zl_sld (h : zz_X V E own cc nL Ts F K rt) (hB : zl_scr E b L xs) {i : Int32} (d : decode cc pc = .ok (.iaload, 1)) (z : zz_Z V E nL cn sn inj k (pc + 1) Lc (.int (xs i.toNatClampNeg) :: stk) st) : zz_Z V E nL cn sn inj (zz_gd (zz_in i L) k) pc Lc (.int i :: .ref b :: stk) st := zz_gd1 (fun hg => by
  obtain ⟨l, D, cl, tys, sf, as, w⟩ := V
  obtain ⟨p, e, R, s, m, args, below, meth, c, A, mc, ms⟩ := E
  obtain ⟨⟨hx, hb, hml, hown, hts⟩, hK, hN, ⟨hD, hsf⟩, hA, hlk, hret, hF, hKl⟩ := h
  intro o hk H locs ls hP hS hl
  exact va_sld hx hb hB.1 hB.2.1 hB.2.2 hS (zz_in_vp hg) d (z o hk H locs ls hP hS hl))
theorem zl_slen (h : zz_X V E own cc nL Ts F K rt) (hB : zl_scr E b L xs) (d : decode cc pc = .ok (.arraylength, 1)) (z : zz_Z V E nL cn sn inj k (pc + 1) Lc (.int (Int32.ofNat L) :: stk) st) : zz_Z V E nL cn sn inj k pc Lc (.ref b :: stk) st := by
  obtain ⟨l, D, cl, tys, sf, as, w⟩ := V
  obtain ⟨p, e, R, s, m, args, below, meth, c, A, mc, ms⟩ := E
  obtain ⟨⟨hx, hb, hml, hown, hts⟩, hK, hN, ⟨hD, hsf⟩, hA, hlk, hret, hF, hKl⟩ := h
  intro o hk H locs ls hP hS hl
  exact va_slen hx hb hB.1 hB.2.1 hB.2.2 hS d (z o hk H locs ls hP hS hl)
theorem zl_ret0 : zz_Z V E nL cn sn (zl_fin E b) (some ((0 : Int32), st)) pc Lc stk st := by
  obtain ⟨l, D, cl, tys, sf, as, w⟩ := V
  obtain ⟨p, e, R, s, m, args, below, meth, c, A, mc, ms⟩ := E
  intro o hk H locs ls hP hS hl
  cases hk
  intro T hT X
  exact ⟨_, Steps.refl _, fun h => absurd (show (0 : Int32) = 1 from h) (by decide)⟩
theorem zl_ret1 (h : zz_X V E own code nL Ts F K rt) (hE : zl_E E b) (hcs : zz_cs E cn sn) (d : decode code pc = .ok (.ireturn, 1)) : zz_Z V E nL cn sn (zl_fin E b) (some ((1 : Int32), st)) pc Lc [.int 1] st := by
  obtain ⟨l, D, cl, tys, sf, as, w⟩ := V
  obtain ⟨p, e, R, s, m, args, below, meth, c, A, mc, ms⟩ := E
  obtain ⟨⟨hx, hb, hml, hown, hts⟩, hK, hN, ⟨hD, hsf⟩, hA, hlk, hret, hF, hKl⟩ := h
  obtain ⟨rfl, rfl, hq, hr⟩ := hE
  intro o hk H locs ls hP hS hl
  cases hk
  have hw : W p l e room_1 s m #[Value.ref b] below meth c H locs cn sn (lw_Z below #[Value.ref b] s) (F0 m pc ls [.int 1]) :=
    va_forget (fun q hq2 => hq _ (hS.2.2 q hq2)) (W.widen hcs.1 hcs.2 (lw_ret hx hb hr hlk d))
  intro T hT X
  obtain ⟨t, a1, b1⟩ := hw T hT X
  exact ⟨t, a1, fun _ => b1⟩
end ZLL
def LA_law_845 (L : Nat) (xs : Nat → Int32) (k23 : Int32 → zl_S → Option (Int32 × zl_S)) (x4 : Int32) (st : zl_S) : Option (Int32 × zl_S) := (k23 (x4 + (3 : Int32)) st)
def LA_law_693 (L : Nat) (xs : Nat → Int32) (k23 : Int32 → zl_S → Option (Int32 × zl_S)) (x4 : Int32) (st : zl_S) : Option (Int32 × zl_S) := (LA_law_845 L xs k23 x4 st)
def LA_law_637 (L : Nat) (xs : Nat → Int32) (k23 : Int32 → zl_S → Option (Int32 × zl_S)) (x4 : Int32) (st : zl_S) : Option (Int32 × zl_S) := (LA_law_845 L xs k23 x4 st)
def LA_law_509 (L : Nat) (xs : Nat → Int32) (k23 : Int32 → zl_S → Option (Int32 × zl_S)) (x4 : Int32) (st : zl_S) : Option (Int32 × zl_S) := (LA_law_845 L xs k23 x4 st)
def LA_law_453 (L : Nat) (xs : Nat → Int32) (k23 : Int32 → zl_S → Option (Int32 × zl_S)) (x4 : Int32) (st : zl_S) : Option (Int32 × zl_S) := (LA_law_845 L xs k23 x4 st)
def LA_law_385 (L : Nat) (xs : Nat → Int32) (k23 : Int32 → zl_S → Option (Int32 × zl_S)) (x4 : Int32) (st : zl_S) : Option (Int32 × zl_S) := (LA_law_845 L xs k23 x4 st)
def LA_law_281 (L : Nat) (xs : Nat → Int32) (k23 : Int32 → zl_S → Option (Int32 × zl_S)) (x4 : Int32) (st : zl_S) : Option (Int32 × zl_S) := (LA_law_845 L xs k23 x4 st)
def LA_law_211 (L : Nat) (xs : Nat → Int32) (k23 : Int32 → zl_S → Option (Int32 × zl_S)) (x4 : Int32) (x5 : Int32) (y0 : Int32) (y1 : Int32) (st : zl_S) : Option (Int32 × zl_S) := (zz_bd (zz_lf (fun s => ((st.1, s, st.2.2) : zl_S)) (MO_protect_f y1 y0 st.2.1)) fun _ s_1 => (zz_bd (zz_lf (fun s => ((s_1.1, s, s_1.2.2) : zl_S)) (MO_thrown_f s_1.2.1)) fun r_3 s_2 => (if r_3 = x5 then (LA_law_845 L xs k23 x4 s_2) else (some ((0 : Int32), s_2)))))
def LA_law_185 (L : Nat) (xs : Nat → Int32) (k23 : Int32 → zl_S → Option (Int32 × zl_S)) (x4 : Int32) (y0 : Int32) (y1 : Int32) (st : zl_S) : Option (Int32 × zl_S) := (zz_bt (LA_protect_f y1 y0 st) (fun r_5 s_4 => (zz_nm (x4 + (1 : Int32)) fun v_6 => (zz_gd (zz_in v_6 L) (zz_nm (x4 + (2 : Int32)) fun v_7 => (zz_gd (zz_in v_7 L) (if (xs v_7.toNatClampNeg) = 0 then (LA_law_211 L xs k23 x4 r_5 (0 : Int32) (xs v_6.toNatClampNeg) s_4) else (LA_law_211 L xs k23 x4 r_5 (1 : Int32) (xs v_6.toNatClampNeg) s_4))))))) (fun _ _ => none))
def LA_law_23b (L : Nat) (xs : Nat → Int32) (k23 : Int32 → zl_S → Option (Int32 × zl_S)) (x4 : Int32) (st : zl_S) : Option (Int32 × zl_S) := (if ((Int32.ofNat L) - (3 : Int32)) < x4 then (some ((1 : Int32), st)) else (zz_gd (zz_in x4 L) (zz_nm ((xs x4.toNatClampNeg) &&& (15 : Int32)) fun v_8 => (if v_8 = (0 : Int32) then (zz_nm (x4 + (1 : Int32)) fun v_10 => (zz_gd (zz_in v_10 L) (zz_nm (x4 + (2 : Int32)) fun v_11 => (zz_gd (zz_in v_11 L) (zz_bt (LA_map_f (xs v_10.toNatClampNeg) (xs v_11.toNatClampNeg) st) (fun r_13 s_12 => (zz_nm (x4 + (1 : Int32)) fun v_14 => (zz_gd (zz_in v_14 L) (zz_nm (x4 + (2 : Int32)) fun v_15 => (zz_gd (zz_in v_15 L) (zz_bd (zz_lf (fun s => ((s_12.1, s, s_12.2.2) : zl_S)) (MO_map_f (xs v_14.toNatClampNeg) (xs v_15.toNatClampNeg) s_12.2.1)) fun _ s_16 => (zz_bd (zz_lf (fun s => ((s_16.1, s, s_16.2.2) : zl_S)) (MO_thrown_f s_16.2.1)) fun r_18 s_17 => (if r_18 = r_13 then (LA_law_845 L xs k23 x4 s_17) else (some ((0 : Int32), s_17)))))))))) (fun _ _ => none)))))) else (if v_8 = (1 : Int32) then (zz_nm (x4 + (1 : Int32)) fun v_20 => (zz_gd (zz_in v_20 L) (zz_nm (x4 + (2 : Int32)) fun v_21 => (zz_gd (zz_in v_21 L) (if (xs v_21.toNatClampNeg) = 0 then (LA_law_185 L xs k23 x4 (0 : Int32) (xs v_20.toNatClampNeg) st) else (LA_law_185 L xs k23 x4 (1 : Int32) (xs v_20.toNatClampNeg) st)))))) else (if v_8 = (2 : Int32) then (zz_nm (x4 + (1 : Int32)) fun v_23 => (zz_gd (zz_in v_23 L) (zz_bt (LA_noted_f (xs v_23.toNatClampNeg) st) (fun r_25 s_24 => (zz_nm (x4 + (1 : Int32)) fun v_26 => (zz_gd (zz_in v_26 L) (zz_bd (zz_lf (fun s => ((s_24.1, s, s_24.2.2) : zl_S)) (MO_noted_f (xs v_26.toNatClampNeg) s_24.2.1)) fun r_28 s_27 => (zz_bd (zz_lf (fun s => ((s_27.1, s, s_27.2.2) : zl_S)) (MO_thrown_f s_27.2.1)) fun r_30 s_29 => (if r_30 = r_25 then (if r_25 = 0 then (zz_gd (zz_in (0 : Int32) 1) (if (lg_cmp (zl_o s_29.2.2 (0 : Int32).toNatClampNeg) (r_28).toInt64) = 0 then (LA_law_281 L xs k23 x4 s_29) else (some ((0 : Int32), s_29)))) else (LA_law_281 L xs k23 x4 s_29)) else (some ((0 : Int32), s_29)))))))) (fun _ _ => none)))) else (if v_8 = (3 : Int32) then (zz_nm (x4 + (1 : Int32)) fun v_32 => (zz_gd (zz_in v_32 L) (zz_nm (x4 + (2 : Int32)) fun v_33 => (zz_gd (zz_in v_33 L) (zz_bt (LA_poke_f (xs v_32.toNatClampNeg) (xs v_33.toNatClampNeg) st) (fun r_35 s_34 => (zz_nm (x4 + (1 : Int32)) fun v_36 => (zz_gd (zz_in v_36 L) (zz_nm (x4 + (2 : Int32)) fun v_37 => (zz_gd (zz_in v_37 L) (zz_bd (zz_lf (fun s => ((s_34.1, s, s_34.2.2) : zl_S)) (MO_poke_f (xs v_36.toNatClampNeg) (xs v_37.toNatClampNeg) s_34.2.1)) fun _ s_38 => (zz_bd (zz_lf (fun s => ((s_38.1, s, s_38.2.2) : zl_S)) (MO_thrown_f s_38.2.1)) fun r_40 s_39 => (if r_40 = r_35 then (LA_law_845 L xs k23 x4 s_39) else (some ((0 : Int32), s_39)))))))))) (fun _ _ => none)))))) else (if v_8 = (4 : Int32) then (zz_nm (x4 + (1 : Int32)) fun v_42 => (zz_gd (zz_in v_42 L) (zz_bt (LA_peek_f (xs v_42.toNatClampNeg) st) (fun r_44 s_43 => (zz_nm (x4 + (1 : Int32)) fun v_45 => (zz_gd (zz_in v_45 L) (zz_bd (zz_lf (fun s => ((s_43.1, s, s_43.2.2) : zl_S)) (MO_peek_f (xs v_45.toNatClampNeg) s_43.2.1)) fun r_47 s_46 => (zz_bd (zz_lf (fun s => ((s_46.1, s, s_46.2.2) : zl_S)) (MO_thrown_f s_46.2.1)) fun r_49 s_48 => (if r_49 = r_44 then (if r_44 = 0 then (zz_gd (zz_in (0 : Int32) 1) (if (lg_cmp (zl_o s_48.2.2 (0 : Int32).toNatClampNeg) (r_47).toInt64) = 0 then (LA_law_385 L xs k23 x4 s_48) else (some ((0 : Int32), s_48)))) else (LA_law_385 L xs k23 x4 s_48)) else (some ((0 : Int32), s_48)))))))) (fun _ _ => none)))) else (if v_8 = (5 : Int32) then (zz_nm (x4 + (1 : Int32)) fun v_51 => (zz_gd (zz_in v_51 L) (zz_nm (x4 + (2 : Int32)) fun v_52 => (zz_gd (zz_in v_52 L) (zz_bt (LA_start_f (xs v_51.toNatClampNeg) (xs v_52.toNatClampNeg) st) (fun r_54 s_53 => (zz_nm (x4 + (1 : Int32)) fun v_55 => (zz_gd (zz_in v_55 L) (zz_nm (x4 + (2 : Int32)) fun v_56 => (zz_gd (zz_in v_56 L) (zz_bd (zz_lf (fun s => ((s_53.1, s, s_53.2.2) : zl_S)) (MO_start_f (xs v_55.toNatClampNeg) (xs v_56.toNatClampNeg) s_53.2.1)) fun r_58 s_57 => (zz_bd (zz_lf (fun s => ((s_57.1, s, s_57.2.2) : zl_S)) (MO_thrown_f s_57.2.1)) fun r_60 s_59 => (if r_60 = r_54 then (if r_54 = 0 then (zz_gd (zz_in (0 : Int32) 1) (if (lg_cmp (zl_o s_59.2.2 (0 : Int32).toNatClampNeg) (r_58).toInt64) = 0 then (LA_law_453 L xs k23 x4 s_59) else (some ((0 : Int32), s_59)))) else (LA_law_453 L xs k23 x4 s_59)) else (some ((0 : Int32), s_59)))))))))) (fun _ _ => none)))))) else (if v_8 = (6 : Int32) then (zz_nm (x4 + (1 : Int32)) fun v_62 => (zz_gd (zz_in v_62 L) (zz_bt (LA_run_f (xs v_62.toNatClampNeg) st) (fun r_64 s_63 => (zz_nm (x4 + (1 : Int32)) fun v_65 => (zz_gd (zz_in v_65 L) (zz_bd (zz_lf (fun s => ((s_63.1, s, s_63.2.2) : zl_S)) (MO_run_f (xs v_65.toNatClampNeg) s_63.2.1)) fun r_67 s_66 => (zz_bd (zz_lf (fun s => ((s_66.1, s, s_66.2.2) : zl_S)) (MO_thrown_f s_66.2.1)) fun r_69 s_68 => (if r_69 = r_64 then (if r_64 = 0 then (zz_gd (zz_in (0 : Int32) 1) (if (lg_cmp (zl_o s_68.2.2 (0 : Int32).toNatClampNeg) (r_67).toInt64) = 0 then (LA_law_509 L xs k23 x4 s_68) else (some ((0 : Int32), s_68)))) else (LA_law_509 L xs k23 x4 s_68)) else (some ((0 : Int32), s_68)))))))) (fun _ _ => none)))) else (if v_8 = (7 : Int32) then (zz_nm (x4 + (1 : Int32)) fun v_71 => (zz_gd (zz_in v_71 L) (zz_bt (LA_resume_f (xs v_71.toNatClampNeg) st) (fun r_73 s_72 => (zz_nm (x4 + (1 : Int32)) fun v_74 => (zz_gd (zz_in v_74 L) (zz_bd (zz_lf (fun s => ((s_72.1, s, s_72.2.2) : zl_S)) (MO_resume_f (xs v_74.toNatClampNeg) s_72.2.1)) fun _ s_75 => (zz_bd (zz_lf (fun s => ((s_75.1, s, s_75.2.2) : zl_S)) (MO_thrown_f s_75.2.1)) fun r_77 s_76 => (if r_77 = r_73 then (LA_law_845 L xs k23 x4 s_76) else (some ((0 : Int32), s_76)))))))) (fun _ _ => none)))) else (if v_8 = (8 : Int32) then (zz_nm (x4 + (1 : Int32)) fun v_79 => (zz_gd (zz_in v_79 L) (zz_bt (LA_kill_f (xs v_79.toNatClampNeg) st) (fun r_81 s_80 => (zz_nm (x4 + (1 : Int32)) fun v_82 => (zz_gd (zz_in v_82 L) (zz_bd (zz_lf (fun s => ((s_80.1, s, s_80.2.2) : zl_S)) (MO_kill_f (xs v_82.toNatClampNeg) s_80.2.1)) fun _ s_83 => (zz_bd (zz_lf (fun s => ((s_83.1, s, s_83.2.2) : zl_S)) (MO_thrown_f s_83.2.1)) fun r_85 s_84 => (if r_85 = r_81 then (LA_law_845 L xs k23 x4 s_84) else (some ((0 : Int32), s_84)))))))) (fun _ _ => none)))) else (if v_8 = (9 : Int32) then (zz_nm (x4 + (1 : Int32)) fun v_87 => (zz_gd (zz_in v_87 L) (zz_bt (LA_interrupt_f (xs v_87.toNatClampNeg) st) (fun r_89 s_88 => (zz_nm (x4 + (1 : Int32)) fun v_90 => (zz_gd (zz_in v_90 L) (zz_bd (zz_lf (fun s => ((s_88.1, s, s_88.2.2) : zl_S)) (MO_interrupt_f (xs v_90.toNatClampNeg) s_88.2.1)) fun r_92 s_91 => (zz_bd (zz_lf (fun s => ((s_91.1, s, s_91.2.2) : zl_S)) (MO_thrown_f s_91.2.1)) fun r_94 s_93 => (if r_94 = r_89 then (if r_89 = 0 then (zz_gd (zz_in (0 : Int32) 1) (if (lg_cmp (zl_o s_93.2.2 (0 : Int32).toNatClampNeg) (r_92).toInt64) = 0 then (LA_law_637 L xs k23 x4 s_93) else (some ((0 : Int32), s_93)))) else (LA_law_637 L xs k23 x4 s_93)) else (some ((0 : Int32), s_93)))))))) (fun _ _ => none)))) else (if v_8 = (10 : Int32) then (zz_nm (x4 + (1 : Int32)) fun v_96 => (zz_gd (zz_in v_96 L) (zz_bt (LA_tick_f (xs v_96.toNatClampNeg) st) (fun r_98 s_97 => (zz_nm (x4 + (1 : Int32)) fun v_99 => (zz_gd (zz_in v_99 L) (zz_bd (zz_lf (fun s => ((s_97.1, s, s_97.2.2) : zl_S)) (MO_tick_f (xs v_99.toNatClampNeg) s_97.2.1)) fun r_101 s_100 => (zz_bd (zz_lf (fun s => ((s_100.1, s, s_100.2.2) : zl_S)) (MO_thrown_f s_100.2.1)) fun r_103 s_102 => (if r_103 = r_98 then (if r_98 = 0 then (zz_gd (zz_in (0 : Int32) 1) (if (lg_cmp (zl_o s_102.2.2 (0 : Int32).toNatClampNeg) (r_101).toInt64) = 0 then (LA_law_693 L xs k23 x4 s_102) else (some ((0 : Int32), s_102)))) else (LA_law_693 L xs k23 x4 s_102)) else (some ((0 : Int32), s_102)))))))) (fun _ _ => none)))) else (if v_8 = (11 : Int32) then (zz_bd (zz_lf (fun s => ((s, st.2) : zl_S)) (FP_running_f st.1)) fun r_106 s_105 => (zz_bd (zz_lf (fun s => ((s_105.1, s, s_105.2.2) : zl_S)) (MO_running_f s_105.2.1)) fun r_108 s_107 => (if r_106 = r_108 then (LA_law_845 L xs k23 x4 s_107) else (some ((0 : Int32), s_107))))) else (if v_8 = (12 : Int32) then (zz_nm (x4 + (1 : Int32)) fun v_110 => (zz_gd (zz_in v_110 L) (zz_nm (x4 + (2 : Int32)) fun v_111 => (zz_gd (zz_in v_111 L) (zz_bd (zz_lf (fun s => ((s, st.2) : zl_S)) (FP_process_f (xs v_110.toNatClampNeg) (xs v_111.toNatClampNeg) st.1)) fun r_113 s_112 => (zz_nm (x4 + (1 : Int32)) fun v_114 => (zz_gd (zz_in v_114 L) (zz_nm (x4 + (2 : Int32)) fun v_115 => (zz_gd (zz_in v_115 L) (zz_bd (zz_lf (fun s => ((s_112.1, s, s_112.2.2) : zl_S)) (MO_process_f (xs v_114.toNatClampNeg) (xs v_115.toNatClampNeg) s_112.2.1)) fun r_117 s_116 => (if r_113 = r_117 then (LA_law_845 L xs k23 x4 s_116) else (some ((0 : Int32), s_116))))))))))))) else (if v_8 = (13 : Int32) then (zz_nm (x4 + (1 : Int32)) fun v_119 => (zz_gd (zz_in v_119 L) (zz_nm (x4 + (2 : Int32)) fun v_120 => (zz_gd (zz_in v_120 L) (zz_bd (zz_lf (fun s => ((s, st.2) : zl_S)) (FP_stack_f (xs v_119.toNatClampNeg) (xs v_120.toNatClampNeg) st.1)) fun r_122 s_121 => (zz_nm (x4 + (1 : Int32)) fun v_123 => (zz_gd (zz_in v_123 L) (zz_nm (x4 + (2 : Int32)) fun v_124 => (zz_gd (zz_in v_124 L) (zz_bd (zz_lf (fun s => ((s_121.1, s, s_121.2.2) : zl_S)) (MO_stack_f (xs v_123.toNatClampNeg) (xs v_124.toNatClampNeg) s_121.2.1)) fun r_126 s_125 => (if r_122 = r_126 then (LA_law_845 L xs k23 x4 s_125) else (some ((0 : Int32), s_125))))))))))))) else (if v_8 = (14 : Int32) then (zz_nm (x4 + (1 : Int32)) fun v_128 => (zz_gd (zz_in v_128 L) (zz_nm (x4 + (2 : Int32)) fun v_129 => (zz_gd (zz_in v_129 L) (zz_bd (zz_lf (fun s => ((s, st.2) : zl_S)) (FP_page_f (xs v_128.toNatClampNeg) (xs v_129.toNatClampNeg) st.1)) fun r_131 s_130 => (zz_nm (x4 + (1 : Int32)) fun v_132 => (zz_gd (zz_in v_132 L) (zz_nm (x4 + (2 : Int32)) fun v_133 => (zz_gd (zz_in v_133 L) (zz_bd (zz_lf (fun s => ((s_130.1, s, s_130.2.2) : zl_S)) (MO_page_f (xs v_132.toNatClampNeg) (xs v_133.toNatClampNeg) s_130.2.1)) fun r_135 s_134 => (if r_131 = r_135 then (LA_law_845 L xs k23 x4 s_134) else (some ((0 : Int32), s_134))))))))))))) else (if v_8 = (15 : Int32) then (zz_nm (x4 + (1 : Int32)) fun v_137 => (zz_gd (zz_in v_137 L) (zz_bd (zz_lf (fun s => ((s, st.2) : zl_S)) (FP_free_f (xs v_137.toNatClampNeg) st.1)) fun r_139 s_138 => (zz_nm (x4 + (1 : Int32)) fun v_140 => (zz_gd (zz_in v_140 L) (zz_bd (zz_lf (fun s => ((s_138.1, s, s_138.2.2) : zl_S)) (MO_free_f (xs v_140.toNatClampNeg) s_138.2.1)) fun r_142 s_141 => (if r_139 = r_142 then (LA_law_845 L xs k23 x4 s_141) else (some ((0 : Int32), s_141))))))))) else (LA_law_845 L xs k23 x4 st))))))))))))))))))))
def LA_law_23 (L : Nat) (xs : Nat → Int32) : Nat → Int32 → zl_S → Option (Int32 × zl_S)
  | 0 => fun _ _ => none
  | n + 1 => LA_law_23b L xs (LA_law_23 L xs n)
set_option maxRecDepth 100000 in
set_option maxHeartbeats 4000000 in
theorem LA_law_845_w {l : Launch} {D : va_G} {aC aM : Nat → Nat} {aO : Nat} {cC cM : Nat → ClassId} {cO : ClassId} {tb : Nat} {E : zz_E} {b L : Nat} {xs : Nat → Int32} {c0 s0 : Nat} (hap : ∀ st, va_D (zl_as aC aM aO) (zl_w aC aM aO cC cM cO st)) (hVc : zz_ok (zc_V l D aC cC tb)) (hVm : zz_ok (zm_V l D aM cM tb)) (htr : l.stackTraces = false) (h : zz_X (zl_V l D aC aM aO cC cM cO tb) E "FrameProcessorLaw" code 7 zt_T 12 484 (some .boolean)) (hB : zl_scr E b L xs) (hE : zl_E E b) (hcs : zz_cs E (c0 + 1) (s0 + 6)) (hnw : ∀ q, E.2.2.2.1.heap.size ≤ q → E.2.2.2.2.2.2.2.2.2.1 q) {k23 : Int32 → zl_S → Option (Int32 × zl_S)} (hk23 : ∀ (x4 : Int32) (st : zl_S), zz_Z (zl_V l D aC aM aO cC cM cO tb) E 7 (c0 + 1) (s0 + 6) (zl_fin E b) (k23 x4 st) 23 [(0, .ref b), (1, .ref (aC 0)), (2, .ref (aM 0)), (3, .ref aO), (4, .int x4)] [] st) (x4 : Int32) (st : zl_S) : zz_Z (zl_V l D aC aM aO cC cM cO tb) E 7 (c0 + 1) (s0 + 6) (zl_fin E b) (LA_law_845 L xs k23 x4 st) 845 [(0, .ref b), (1, .ref (aC 0)), (2, .ref (aM 0)), (3, .ref aO), (4, .int x4)] [] st := by
  unfold LA_law_845
  refine zz_iinc h (3 : Int32) dLA_law_845 zz_li_3 rfl (Nat.le_of_ble_eq_true rfl) ?_
  refine zz_goto h 23 dLA_law_848 rfl ?_
  exact zz_sub (hk23 _ _) rfl
set_option maxRecDepth 100000 in
set_option maxHeartbeats 4000000 in
theorem LA_law_693_w {l : Launch} {D : va_G} {aC aM : Nat → Nat} {aO : Nat} {cC cM : Nat → ClassId} {cO : ClassId} {tb : Nat} {E : zz_E} {b L : Nat} {xs : Nat → Int32} {c0 s0 : Nat} (hap : ∀ st, va_D (zl_as aC aM aO) (zl_w aC aM aO cC cM cO st)) (hVc : zz_ok (zc_V l D aC cC tb)) (hVm : zz_ok (zm_V l D aM cM tb)) (htr : l.stackTraces = false) (h : zz_X (zl_V l D aC aM aO cC cM cO tb) E "FrameProcessorLaw" code 7 zt_T 12 484 (some .boolean)) (hB : zl_scr E b L xs) (hE : zl_E E b) (hcs : zz_cs E (c0 + 1) (s0 + 6)) (hnw : ∀ q, E.2.2.2.1.heap.size ≤ q → E.2.2.2.2.2.2.2.2.2.1 q) {k23 : Int32 → zl_S → Option (Int32 × zl_S)} (hk23 : ∀ (x4 : Int32) (st : zl_S), zz_Z (zl_V l D aC aM aO cC cM cO tb) E 7 (c0 + 1) (s0 + 6) (zl_fin E b) (k23 x4 st) 23 [(0, .ref b), (1, .ref (aC 0)), (2, .ref (aM 0)), (3, .ref aO), (4, .int x4)] [] st) (x4 : Int32) (st : zl_S) : zz_Z (zl_V l D aC aM aO cC cM cO tb) E 7 (c0 + 1) (s0 + 6) (zl_fin E b) (LA_law_693 L xs k23 x4 st) 693 [(0, .ref b), (1, .ref (aC 0)), (2, .ref (aM 0)), (3, .ref aO), (4, .int x4)] [] st := by
  unfold LA_law_693
  refine zz_goto h 845 dLA_law_693 rfl ?_
  exact zz_sub (LA_law_845_w hap hVc hVm htr h hB hE hcs hnw hk23 _ _) rfl
set_option maxRecDepth 100000 in
set_option maxHeartbeats 4000000 in
theorem LA_law_637_w {l : Launch} {D : va_G} {aC aM : Nat → Nat} {aO : Nat} {cC cM : Nat → ClassId} {cO : ClassId} {tb : Nat} {E : zz_E} {b L : Nat} {xs : Nat → Int32} {c0 s0 : Nat} (hap : ∀ st, va_D (zl_as aC aM aO) (zl_w aC aM aO cC cM cO st)) (hVc : zz_ok (zc_V l D aC cC tb)) (hVm : zz_ok (zm_V l D aM cM tb)) (htr : l.stackTraces = false) (h : zz_X (zl_V l D aC aM aO cC cM cO tb) E "FrameProcessorLaw" code 7 zt_T 12 484 (some .boolean)) (hB : zl_scr E b L xs) (hE : zl_E E b) (hcs : zz_cs E (c0 + 1) (s0 + 6)) (hnw : ∀ q, E.2.2.2.1.heap.size ≤ q → E.2.2.2.2.2.2.2.2.2.1 q) {k23 : Int32 → zl_S → Option (Int32 × zl_S)} (hk23 : ∀ (x4 : Int32) (st : zl_S), zz_Z (zl_V l D aC aM aO cC cM cO tb) E 7 (c0 + 1) (s0 + 6) (zl_fin E b) (k23 x4 st) 23 [(0, .ref b), (1, .ref (aC 0)), (2, .ref (aM 0)), (3, .ref aO), (4, .int x4)] [] st) (x4 : Int32) (st : zl_S) : zz_Z (zl_V l D aC aM aO cC cM cO tb) E 7 (c0 + 1) (s0 + 6) (zl_fin E b) (LA_law_637 L xs k23 x4 st) 637 [(0, .ref b), (1, .ref (aC 0)), (2, .ref (aM 0)), (3, .ref aO), (4, .int x4)] [] st := by
  unfold LA_law_637
  refine zz_goto h 845 dLA_law_637 rfl ?_
  exact zz_sub (LA_law_845_w hap hVc hVm htr h hB hE hcs hnw hk23 _ _) rfl
set_option maxRecDepth 100000 in
set_option maxHeartbeats 4000000 in
theorem LA_law_509_w {l : Launch} {D : va_G} {aC aM : Nat → Nat} {aO : Nat} {cC cM : Nat → ClassId} {cO : ClassId} {tb : Nat} {E : zz_E} {b L : Nat} {xs : Nat → Int32} {c0 s0 : Nat} (hap : ∀ st, va_D (zl_as aC aM aO) (zl_w aC aM aO cC cM cO st)) (hVc : zz_ok (zc_V l D aC cC tb)) (hVm : zz_ok (zm_V l D aM cM tb)) (htr : l.stackTraces = false) (h : zz_X (zl_V l D aC aM aO cC cM cO tb) E "FrameProcessorLaw" code 7 zt_T 12 484 (some .boolean)) (hB : zl_scr E b L xs) (hE : zl_E E b) (hcs : zz_cs E (c0 + 1) (s0 + 6)) (hnw : ∀ q, E.2.2.2.1.heap.size ≤ q → E.2.2.2.2.2.2.2.2.2.1 q) {k23 : Int32 → zl_S → Option (Int32 × zl_S)} (hk23 : ∀ (x4 : Int32) (st : zl_S), zz_Z (zl_V l D aC aM aO cC cM cO tb) E 7 (c0 + 1) (s0 + 6) (zl_fin E b) (k23 x4 st) 23 [(0, .ref b), (1, .ref (aC 0)), (2, .ref (aM 0)), (3, .ref aO), (4, .int x4)] [] st) (x4 : Int32) (st : zl_S) : zz_Z (zl_V l D aC aM aO cC cM cO tb) E 7 (c0 + 1) (s0 + 6) (zl_fin E b) (LA_law_509 L xs k23 x4 st) 509 [(0, .ref b), (1, .ref (aC 0)), (2, .ref (aM 0)), (3, .ref aO), (4, .int x4)] [] st := by
  unfold LA_law_509
  refine zz_goto h 845 dLA_law_509 rfl ?_
  exact zz_sub (LA_law_845_w hap hVc hVm htr h hB hE hcs hnw hk23 _ _) rfl
set_option maxRecDepth 100000 in
set_option maxHeartbeats 4000000 in
theorem LA_law_453_w {l : Launch} {D : va_G} {aC aM : Nat → Nat} {aO : Nat} {cC cM : Nat → ClassId} {cO : ClassId} {tb : Nat} {E : zz_E} {b L : Nat} {xs : Nat → Int32} {c0 s0 : Nat} (hap : ∀ st, va_D (zl_as aC aM aO) (zl_w aC aM aO cC cM cO st)) (hVc : zz_ok (zc_V l D aC cC tb)) (hVm : zz_ok (zm_V l D aM cM tb)) (htr : l.stackTraces = false) (h : zz_X (zl_V l D aC aM aO cC cM cO tb) E "FrameProcessorLaw" code 7 zt_T 12 484 (some .boolean)) (hB : zl_scr E b L xs) (hE : zl_E E b) (hcs : zz_cs E (c0 + 1) (s0 + 6)) (hnw : ∀ q, E.2.2.2.1.heap.size ≤ q → E.2.2.2.2.2.2.2.2.2.1 q) {k23 : Int32 → zl_S → Option (Int32 × zl_S)} (hk23 : ∀ (x4 : Int32) (st : zl_S), zz_Z (zl_V l D aC aM aO cC cM cO tb) E 7 (c0 + 1) (s0 + 6) (zl_fin E b) (k23 x4 st) 23 [(0, .ref b), (1, .ref (aC 0)), (2, .ref (aM 0)), (3, .ref aO), (4, .int x4)] [] st) (x4 : Int32) (st : zl_S) : zz_Z (zl_V l D aC aM aO cC cM cO tb) E 7 (c0 + 1) (s0 + 6) (zl_fin E b) (LA_law_453 L xs k23 x4 st) 453 [(0, .ref b), (1, .ref (aC 0)), (2, .ref (aM 0)), (3, .ref aO), (4, .int x4)] [] st := by
  unfold LA_law_453
  refine zz_goto h 845 dLA_law_453 rfl ?_
  exact zz_sub (LA_law_845_w hap hVc hVm htr h hB hE hcs hnw hk23 _ _) rfl
set_option maxRecDepth 100000 in
set_option maxHeartbeats 4000000 in
theorem LA_law_385_w {l : Launch} {D : va_G} {aC aM : Nat → Nat} {aO : Nat} {cC cM : Nat → ClassId} {cO : ClassId} {tb : Nat} {E : zz_E} {b L : Nat} {xs : Nat → Int32} {c0 s0 : Nat} (hap : ∀ st, va_D (zl_as aC aM aO) (zl_w aC aM aO cC cM cO st)) (hVc : zz_ok (zc_V l D aC cC tb)) (hVm : zz_ok (zm_V l D aM cM tb)) (htr : l.stackTraces = false) (h : zz_X (zl_V l D aC aM aO cC cM cO tb) E "FrameProcessorLaw" code 7 zt_T 12 484 (some .boolean)) (hB : zl_scr E b L xs) (hE : zl_E E b) (hcs : zz_cs E (c0 + 1) (s0 + 6)) (hnw : ∀ q, E.2.2.2.1.heap.size ≤ q → E.2.2.2.2.2.2.2.2.2.1 q) {k23 : Int32 → zl_S → Option (Int32 × zl_S)} (hk23 : ∀ (x4 : Int32) (st : zl_S), zz_Z (zl_V l D aC aM aO cC cM cO tb) E 7 (c0 + 1) (s0 + 6) (zl_fin E b) (k23 x4 st) 23 [(0, .ref b), (1, .ref (aC 0)), (2, .ref (aM 0)), (3, .ref aO), (4, .int x4)] [] st) (x4 : Int32) (st : zl_S) : zz_Z (zl_V l D aC aM aO cC cM cO tb) E 7 (c0 + 1) (s0 + 6) (zl_fin E b) (LA_law_385 L xs k23 x4 st) 385 [(0, .ref b), (1, .ref (aC 0)), (2, .ref (aM 0)), (3, .ref aO), (4, .int x4)] [] st := by
  unfold LA_law_385
  refine zz_goto h 845 dLA_law_385 rfl ?_
  exact zz_sub (LA_law_845_w hap hVc hVm htr h hB hE hcs hnw hk23 _ _) rfl
set_option maxRecDepth 100000 in
set_option maxHeartbeats 4000000 in
theorem LA_law_281_w {l : Launch} {D : va_G} {aC aM : Nat → Nat} {aO : Nat} {cC cM : Nat → ClassId} {cO : ClassId} {tb : Nat} {E : zz_E} {b L : Nat} {xs : Nat → Int32} {c0 s0 : Nat} (hap : ∀ st, va_D (zl_as aC aM aO) (zl_w aC aM aO cC cM cO st)) (hVc : zz_ok (zc_V l D aC cC tb)) (hVm : zz_ok (zm_V l D aM cM tb)) (htr : l.stackTraces = false) (h : zz_X (zl_V l D aC aM aO cC cM cO tb) E "FrameProcessorLaw" code 7 zt_T 12 484 (some .boolean)) (hB : zl_scr E b L xs) (hE : zl_E E b) (hcs : zz_cs E (c0 + 1) (s0 + 6)) (hnw : ∀ q, E.2.2.2.1.heap.size ≤ q → E.2.2.2.2.2.2.2.2.2.1 q) {k23 : Int32 → zl_S → Option (Int32 × zl_S)} (hk23 : ∀ (x4 : Int32) (st : zl_S), zz_Z (zl_V l D aC aM aO cC cM cO tb) E 7 (c0 + 1) (s0 + 6) (zl_fin E b) (k23 x4 st) 23 [(0, .ref b), (1, .ref (aC 0)), (2, .ref (aM 0)), (3, .ref aO), (4, .int x4)] [] st) (x4 : Int32) (st : zl_S) : zz_Z (zl_V l D aC aM aO cC cM cO tb) E 7 (c0 + 1) (s0 + 6) (zl_fin E b) (LA_law_281 L xs k23 x4 st) 281 [(0, .ref b), (1, .ref (aC 0)), (2, .ref (aM 0)), (3, .ref aO), (4, .int x4)] [] st := by
  unfold LA_law_281
  refine zz_goto h 845 dLA_law_281 rfl ?_
  exact zz_sub (LA_law_845_w hap hVc hVm htr h hB hE hcs hnw hk23 _ _) rfl
set_option maxRecDepth 100000 in
set_option maxHeartbeats 4000000 in
theorem LA_law_211_w {l : Launch} {D : va_G} {aC aM : Nat → Nat} {aO : Nat} {cC cM : Nat → ClassId} {cO : ClassId} {tb : Nat} {E : zz_E} {b L : Nat} {xs : Nat → Int32} {c0 s0 : Nat} (hap : ∀ st, va_D (zl_as aC aM aO) (zl_w aC aM aO cC cM cO st)) (hVc : zz_ok (zc_V l D aC cC tb)) (hVm : zz_ok (zm_V l D aM cM tb)) (htr : l.stackTraces = false) (h : zz_X (zl_V l D aC aM aO cC cM cO tb) E "FrameProcessorLaw" code 7 zt_T 12 484 (some .boolean)) (hB : zl_scr E b L xs) (hE : zl_E E b) (hcs : zz_cs E (c0 + 1) (s0 + 6)) (hnw : ∀ q, E.2.2.2.1.heap.size ≤ q → E.2.2.2.2.2.2.2.2.2.1 q) {k23 : Int32 → zl_S → Option (Int32 × zl_S)} (hk23 : ∀ (x4 : Int32) (st : zl_S), zz_Z (zl_V l D aC aM aO cC cM cO tb) E 7 (c0 + 1) (s0 + 6) (zl_fin E b) (k23 x4 st) 23 [(0, .ref b), (1, .ref (aC 0)), (2, .ref (aM 0)), (3, .ref aO), (4, .int x4)] [] st) (x4 : Int32) (x5 : Int32) (y0 : Int32) (y1 : Int32) (st : zl_S) : zz_Z (zl_V l D aC aM aO cC cM cO tb) E 7 (c0 + 1) (s0 + 6) (zl_fin E b) (LA_law_211 L xs k23 x4 x5 y0 y1 st) 211 [(0, .ref b), (1, .ref (aC 0)), (2, .ref (aM 0)), (3, .ref aO), (4, .int x4), (5, .int x5)] [.int y0, .int y1, .ref (aM 0)] st := by
  unfold LA_law_211
  refine zg_callV h hcs (q0 := 27) (As := [.int y1, .int y0]) (rest := []) rfl rfl (zl_M hap st (MO_protect_c hVm _ _ _)) MO_protect_k zm_LA_70 rfl rfl ⟨Nat.le_of_ble_eq_true rfl, Nat.le_of_ble_eq_true rfl⟩ rfl rfl (Nat.le_of_ble_eq_true rfl) dLA_law_211 (fun _ s_1 => ?_)
  show zz_Z (zl_V l D aC aM aO cC cM cO tb) E 7 (c0 + 1) (s0 + 6) (zl_fin E b) _ _ _ ([]) _
  refine zz_aload_n h dLA_law_214 rfl ?_
  refine zg_callV h hcs (q0 := 27) (As := []) (rest := []) rfl rfl (zl_M hap s_1 (MO_thrown_c hVm _)) MO_thrown_k zm_LA_63 rfl rfl ⟨Nat.le_of_ble_eq_true rfl, Nat.le_of_ble_eq_true rfl⟩ rfl rfl (Nat.le_of_ble_eq_true rfl) dLA_law_215 (fun r_3 s_2 => ?_)
  show zz_Z (zl_V l D aC aM aO cC cM cO tb) E 7 (c0 + 1) (s0 + 6) (zl_fin E b) _ _ _ (.int r_3 :: []) _
  refine zz_iload h dLA_law_218 rfl ?_
  refine zz_icmp_eq h 225 dLA_law_220 rfl ?_ ?_
  · refine zz_goto h 845 dLA_law_225 rfl ?_
    exact zz_sub (LA_law_845_w hap hVc hVm htr h hB hE hcs hnw hk23 _ _) rfl
  · refine zz_iconst (v := 0) h dLA_law_223 zz_li_0 ?_
    exact zl_ret0
set_option maxRecDepth 100000 in
set_option maxHeartbeats 4000000 in
theorem LA_law_185_w {l : Launch} {D : va_G} {aC aM : Nat → Nat} {aO : Nat} {cC cM : Nat → ClassId} {cO : ClassId} {tb : Nat} {E : zz_E} {b L : Nat} {xs : Nat → Int32} {c0 s0 : Nat} (hap : ∀ st, va_D (zl_as aC aM aO) (zl_w aC aM aO cC cM cO st)) (hVc : zz_ok (zc_V l D aC cC tb)) (hVm : zz_ok (zm_V l D aM cM tb)) (htr : l.stackTraces = false) (h : zz_X (zl_V l D aC aM aO cC cM cO tb) E "FrameProcessorLaw" code 7 zt_T 12 484 (some .boolean)) (hB : zl_scr E b L xs) (hE : zl_E E b) (hcs : zz_cs E (c0 + 1) (s0 + 6)) (hnw : ∀ q, E.2.2.2.1.heap.size ≤ q → E.2.2.2.2.2.2.2.2.2.1 q) {k23 : Int32 → zl_S → Option (Int32 × zl_S)} (hk23 : ∀ (x4 : Int32) (st : zl_S), zz_Z (zl_V l D aC aM aO cC cM cO tb) E 7 (c0 + 1) (s0 + 6) (zl_fin E b) (k23 x4 st) 23 [(0, .ref b), (1, .ref (aC 0)), (2, .ref (aM 0)), (3, .ref aO), (4, .int x4)] [] st) (x4 : Int32) (y0 : Int32) (y1 : Int32) (st : zl_S) : zz_Z (zl_V l D aC aM aO cC cM cO tb) E 7 c0 s0 (zl_fin E b) (LA_law_185 L xs k23 x4 y0 y1 st) 185 [(0, .ref b), (1, .ref (aC 0)), (2, .ref (aM 0)), (3, .ref aO), (4, .int x4)] [.int y0, .int y1, .ref (aC 0)] st := by
  unfold LA_law_185
  refine zg_callSW h hcs (As := [.ref (aC 0), .int y1, .int y0]) (rest := []) (LA_protect_c hap hVc htr _ _ _) LA_protect_kW zm_LA_67 rfl rfl ⟨Nat.le_of_ble_eq_true rfl, Nat.le_of_ble_eq_true rfl⟩ rfl rfl (Nat.le_of_ble_eq_true rfl) dLA_law_185 hnw (fun r_5 s_4 => ?_)
  refine zz_istore h dLA_law_188 (Nat.le_of_ble_eq_true rfl) ?_
  refine zz_aload_n h dLA_law_190 rfl ?_
  refine zz_aload_n h dLA_law_191 rfl ?_
  refine zz_iload h dLA_law_192 rfl ?_
  refine zz_iconst (v := 1) h dLA_law_194 zz_li_1 ?_
  refine zz_iadd h dLA_law_195 ?_
  refine zz_topi (fun v_6 => ?_)
  refine zl_sld h hB dLA_law_196 ?_
  refine zz_aload_n h dLA_law_197 rfl ?_
  refine zz_iload h dLA_law_198 rfl ?_
  refine zz_iconst (v := 2) h dLA_law_200 zz_li_2 ?_
  refine zz_iadd h dLA_law_201 ?_
  refine zz_topi (fun v_7 => ?_)
  refine zl_sld h hB dLA_law_202 ?_
  refine zz_if_eq h 210 dLA_law_203 rfl ?_ ?_
  · refine zz_iconst (v := 0) h dLA_law_210 zz_li_0 ?_
    exact zz_sub (LA_law_211_w hap hVc hVm htr h hB hE hcs hnw hk23 _ _ _ _ _) rfl
  · refine zz_iconst (v := 1) h dLA_law_206 zz_li_1 ?_
    refine zz_goto h 211 dLA_law_207 rfl ?_
    exact zz_sub (LA_law_211_w hap hVc hVm htr h hB hE hcs hnw hk23 _ _ _ _ _) rfl
set_option maxRecDepth 100000 in
set_option maxHeartbeats 4000000 in
theorem LA_law_23b_w {l : Launch} {D : va_G} {aC aM : Nat → Nat} {aO : Nat} {cC cM : Nat → ClassId} {cO : ClassId} {tb : Nat} {E : zz_E} {b L : Nat} {xs : Nat → Int32} {c0 s0 : Nat} (hap : ∀ st, va_D (zl_as aC aM aO) (zl_w aC aM aO cC cM cO st)) (hVc : zz_ok (zc_V l D aC cC tb)) (hVm : zz_ok (zm_V l D aM cM tb)) (htr : l.stackTraces = false) (h : zz_X (zl_V l D aC aM aO cC cM cO tb) E "FrameProcessorLaw" code 7 zt_T 12 484 (some .boolean)) (hB : zl_scr E b L xs) (hE : zl_E E b) (hcs : zz_cs E (c0 + 1) (s0 + 6)) (hnw : ∀ q, E.2.2.2.1.heap.size ≤ q → E.2.2.2.2.2.2.2.2.2.1 q) {k23 : Int32 → zl_S → Option (Int32 × zl_S)} (hk23 : ∀ (x4 : Int32) (st : zl_S), zz_Z (zl_V l D aC aM aO cC cM cO tb) E 7 (c0 + 1) (s0 + 6) (zl_fin E b) (k23 x4 st) 23 [(0, .ref b), (1, .ref (aC 0)), (2, .ref (aM 0)), (3, .ref aO), (4, .int x4)] [] st) (x4 : Int32) (st : zl_S) : zz_Z (zl_V l D aC aM aO cC cM cO tb) E 7 c0 s0 (zl_fin E b) (LA_law_23b L xs k23 x4 st) 23 [(0, .ref b), (1, .ref (aC 0)), (2, .ref (aM 0)), (3, .ref aO), (4, .int x4)] [] st := by
  unfold LA_law_23b
  refine zz_iload h dLA_law_23 rfl ?_
  refine zz_aload_n h dLA_law_25 rfl ?_
  refine zl_slen h hB dLA_law_26 ?_
  refine zz_iconst (v := 3) h dLA_law_27 zz_li_3 ?_
  refine zz_isub h dLA_law_28 ?_
  refine zz_icmp_gt h 851 dLA_law_29 rfl ?_ ?_
  · refine zz_iconst (v := 1) h dLA_law_851 zz_li_1 ?_
    exact zl_ret1 h hE (zz_cs0 hcs) dLA_law_852
  · refine zz_aload_n h dLA_law_32 rfl ?_
    refine zz_iload h dLA_law_33 rfl ?_
    refine zl_sld h hB dLA_law_35 ?_
    refine zz_bipush (v := 15) h dLA_law_36 zz_lb_15 ?_
    refine zz_iand h dLA_law_38 ?_
    refine zz_topi (fun v_8 => ?_)
    refine zz_ite (fun c_9 => ?_) (fun c_9 => ?_)
    · refine zz_table (off := 77) h 116 dLA_law_39 c_9 (by decide) (by decide) (by decide) rfl ?_
      refine zz_aload_n h dLA_law_116 rfl ?_
      refine zz_aload_n h dLA_law_117 rfl ?_
      refine zz_iload h dLA_law_118 rfl ?_
      refine zz_iconst (v := 1) h dLA_law_120 zz_li_1 ?_
      refine zz_iadd h dLA_law_121 ?_
      refine zz_topi (fun v_10 => ?_)
      refine zl_sld h hB dLA_law_122 ?_
      refine zz_aload_n h dLA_law_123 rfl ?_
      refine zz_iload h dLA_law_124 rfl ?_
      refine zz_iconst (v := 2) h dLA_law_126 zz_li_2 ?_
      refine zz_iadd h dLA_law_127 ?_
      refine zz_topi (fun v_11 => ?_)
      refine zl_sld h hB dLA_law_128 ?_
      refine zg_callSW h hcs (As := [.ref (aC 0), .int (xs v_10.toNatClampNeg), .int (xs v_11.toNatClampNeg)]) (rest := []) (LA_map_c hap hVc htr _ _ _) LA_map_kW zm_LA_57 rfl rfl ⟨Nat.le_of_ble_eq_true rfl, Nat.le_of_ble_eq_true rfl⟩ rfl rfl (Nat.le_of_ble_eq_true rfl) dLA_law_129 hnw (fun r_13 s_12 => ?_)
      refine zz_istore h dLA_law_132 (Nat.le_of_ble_eq_true rfl) ?_
      refine zz_aload_n h dLA_law_134 rfl ?_
      refine zz_aload_n h dLA_law_135 rfl ?_
      refine zz_iload h dLA_law_136 rfl ?_
      refine zz_iconst (v := 1) h dLA_law_138 zz_li_1 ?_
      refine zz_iadd h dLA_law_139 ?_
      refine zz_topi (fun v_14 => ?_)
      refine zl_sld h hB dLA_law_140 ?_
      refine zz_aload_n h dLA_law_141 rfl ?_
      refine zz_iload h dLA_law_142 rfl ?_
      refine zz_iconst (v := 2) h dLA_law_144 zz_li_2 ?_
      refine zz_iadd h dLA_law_145 ?_
      refine zz_topi (fun v_15 => ?_)
      refine zl_sld h hB dLA_law_146 ?_
      refine zg_callV h hcs (q0 := 27) (As := [.int (xs v_14.toNatClampNeg), .int (xs v_15.toNatClampNeg)]) (rest := []) rfl rfl (zl_M hap s_12 (MO_map_c hVm _ _ _)) MO_map_k zm_LA_62 rfl rfl ⟨Nat.le_of_ble_eq_true rfl, Nat.le_of_ble_eq_true rfl⟩ rfl rfl (Nat.le_of_ble_eq_true rfl) dLA_law_147 (fun _ s_16 => ?_)
      show zz_Z (zl_V l D aC aM aO cC cM cO tb) E 7 (c0 + 1) (s0 + 6) (zl_fin E b) _ _ _ ([]) _
      refine zz_aload_n h dLA_law_150 rfl ?_
      refine zg_callV h hcs (q0 := 27) (As := []) (rest := []) rfl rfl (zl_M hap s_16 (MO_thrown_c hVm _)) MO_thrown_k zm_LA_63 rfl rfl ⟨Nat.le_of_ble_eq_true rfl, Nat.le_of_ble_eq_true rfl⟩ rfl rfl (Nat.le_of_ble_eq_true rfl) dLA_law_151 (fun r_18 s_17 => ?_)
      show zz_Z (zl_V l D aC aM aO cC cM cO tb) E 7 (c0 + 1) (s0 + 6) (zl_fin E b) _ _ _ (.int r_18 :: []) _
      refine zz_iload h dLA_law_154 rfl ?_
      refine zz_icmp_eq h 161 dLA_law_156 rfl ?_ ?_
      · refine zz_goto h 845 dLA_law_161 rfl ?_
        exact zz_sub (LA_law_845_w hap hVc hVm htr h hB hE hcs hnw hk23 _ _) rfl
      · refine zz_iconst (v := 0) h dLA_law_159 zz_li_0 ?_
        exact zl_ret0
    refine zz_ite (fun c_19 => ?_) (fun c_19 => ?_)
    · refine zz_table (off := 125) h 164 dLA_law_39 c_19 (by decide) (by decide) (by decide) rfl ?_
      refine zz_aload_n h dLA_law_164 rfl ?_
      refine zz_aload_n h dLA_law_165 rfl ?_
      refine zz_iload h dLA_law_166 rfl ?_
      refine zz_iconst (v := 1) h dLA_law_168 zz_li_1 ?_
      refine zz_iadd h dLA_law_169 ?_
      refine zz_topi (fun v_20 => ?_)
      refine zl_sld h hB dLA_law_170 ?_
      refine zz_aload_n h dLA_law_171 rfl ?_
      refine zz_iload h dLA_law_172 rfl ?_
      refine zz_iconst (v := 2) h dLA_law_174 zz_li_2 ?_
      refine zz_iadd h dLA_law_175 ?_
      refine zz_topi (fun v_21 => ?_)
      refine zl_sld h hB dLA_law_176 ?_
      refine zz_if_eq h 184 dLA_law_177 rfl ?_ ?_
      · refine zz_iconst (v := 0) h dLA_law_184 zz_li_0 ?_
        exact zz_sub (LA_law_185_w hap hVc hVm htr h hB hE hcs hnw hk23 _ _ _ _) rfl
      · refine zz_iconst (v := 1) h dLA_law_180 zz_li_1 ?_
        refine zz_goto h 185 dLA_law_181 rfl ?_
        exact zz_sub (LA_law_185_w hap hVc hVm htr h hB hE hcs hnw hk23 _ _ _ _) rfl
    refine zz_ite (fun c_22 => ?_) (fun c_22 => ?_)
    · refine zz_table (off := 189) h 228 dLA_law_39 c_22 (by decide) (by decide) (by decide) rfl ?_
      refine zz_aload_n h dLA_law_228 rfl ?_
      refine zz_aload_n h dLA_law_229 rfl ?_
      refine zz_iload h dLA_law_230 rfl ?_
      refine zz_iconst (v := 1) h dLA_law_232 zz_li_1 ?_
      refine zz_iadd h dLA_law_233 ?_
      refine zz_topi (fun v_23 => ?_)
      refine zl_sld h hB dLA_law_234 ?_
      refine zz_aload_n h dLA_law_235 rfl ?_
      refine zg_callSW h hcs (As := [.ref (aC 0), .int (xs v_23.toNatClampNeg), .ref aO]) (rest := []) (LA_noted_c hap hVc htr _ _) LA_noted_kW zm_LA_71 rfl rfl ⟨Nat.le_of_ble_eq_true rfl, Nat.le_of_ble_eq_true rfl⟩ rfl rfl (Nat.le_of_ble_eq_true rfl) dLA_law_236 hnw (fun r_25 s_24 => ?_)
      refine zz_istore h dLA_law_239 (Nat.le_of_ble_eq_true rfl) ?_
      refine zz_aload_n h dLA_law_241 rfl ?_
      refine zz_aload_n h dLA_law_242 rfl ?_
      refine zz_iload h dLA_law_243 rfl ?_
      refine zz_iconst (v := 1) h dLA_law_245 zz_li_1 ?_
      refine zz_iadd h dLA_law_246 ?_
      refine zz_topi (fun v_26 => ?_)
      refine zl_sld h hB dLA_law_247 ?_
      refine zg_callV h hcs (q0 := 27) (As := [.int (xs v_26.toNatClampNeg)]) (rest := []) rfl rfl (zl_M hap s_24 (MO_noted_c hVm _ _)) MO_noted_k zm_LA_74 rfl rfl ⟨Nat.le_of_ble_eq_true rfl, Nat.le_of_ble_eq_true rfl⟩ rfl rfl (Nat.le_of_ble_eq_true rfl) dLA_law_248 (fun r_28 s_27 => ?_)
      show zz_Z (zl_V l D aC aM aO cC cM cO tb) E 7 (c0 + 1) (s0 + 6) (zl_fin E b) _ _ _ (.int r_28 :: []) _
      refine zz_istore h dLA_law_251 (Nat.le_of_ble_eq_true rfl) ?_
      refine zz_aload_n h dLA_law_253 rfl ?_
      refine zg_callV h hcs (q0 := 27) (As := []) (rest := []) rfl rfl (zl_M hap s_27 (MO_thrown_c hVm _)) MO_thrown_k zm_LA_63 rfl rfl ⟨Nat.le_of_ble_eq_true rfl, Nat.le_of_ble_eq_true rfl⟩ rfl rfl (Nat.le_of_ble_eq_true rfl) dLA_law_254 (fun r_30 s_29 => ?_)
      show zz_Z (zl_V l D aC aM aO cC cM cO tb) E 7 (c0 + 1) (s0 + 6) (zl_fin E b) _ _ _ (.int r_30 :: []) _
      refine zz_iload h dLA_law_257 rfl ?_
      refine zz_icmp_eq h 264 dLA_law_259 rfl ?_ ?_
      · refine zz_iload h dLA_law_264 rfl ?_
        refine zz_if_ne h 281 dLA_law_266 rfl ?_ ?_
        · refine zz_aload_n h dLA_law_269 rfl ?_
          refine zz_iconst (v := 0) h dLA_law_270 zz_li_0 ?_
          refine zz_lald h 45 6 rfl rfl dLA_law_271 ?_
          refine zz_iload h dLA_law_272 rfl ?_
          refine zz_i2l h dLA_law_274 ?_
          refine zz_lcmp h dLA_law_275 ?_
          refine zz_if_eq h 281 dLA_law_276 rfl ?_ ?_
          · exact zz_sub (LA_law_281_w hap hVc hVm htr h hB hE hcs hnw hk23 _ _) rfl
          · refine zz_iconst (v := 0) h dLA_law_279 zz_li_0 ?_
            exact zl_ret0
        · exact zz_sub (LA_law_281_w hap hVc hVm htr h hB hE hcs hnw hk23 _ _) rfl
      · refine zz_iconst (v := 0) h dLA_law_262 zz_li_0 ?_
        exact zl_ret0
    refine zz_ite (fun c_31 => ?_) (fun c_31 => ?_)
    · refine zz_table (off := 245) h 284 dLA_law_39 c_31 (by decide) (by decide) (by decide) rfl ?_
      refine zz_aload_n h dLA_law_284 rfl ?_
      refine zz_aload_n h dLA_law_285 rfl ?_
      refine zz_iload h dLA_law_286 rfl ?_
      refine zz_iconst (v := 1) h dLA_law_288 zz_li_1 ?_
      refine zz_iadd h dLA_law_289 ?_
      refine zz_topi (fun v_32 => ?_)
      refine zl_sld h hB dLA_law_290 ?_
      refine zz_aload_n h dLA_law_291 rfl ?_
      refine zz_iload h dLA_law_292 rfl ?_
      refine zz_iconst (v := 2) h dLA_law_294 zz_li_2 ?_
      refine zz_iadd h dLA_law_295 ?_
      refine zz_topi (fun v_33 => ?_)
      refine zl_sld h hB dLA_law_296 ?_
      refine zg_callSW h hcs (As := [.ref (aC 0), .int (xs v_32.toNatClampNeg), .int (xs v_33.toNatClampNeg)]) (rest := []) (LA_poke_c hap hVc htr _ _ _) LA_poke_kW zm_LA_75 rfl rfl ⟨Nat.le_of_ble_eq_true rfl, Nat.le_of_ble_eq_true rfl⟩ rfl rfl (Nat.le_of_ble_eq_true rfl) dLA_law_297 hnw (fun r_35 s_34 => ?_)
      refine zz_istore h dLA_law_300 (Nat.le_of_ble_eq_true rfl) ?_
      refine zz_aload_n h dLA_law_302 rfl ?_
      refine zz_aload_n h dLA_law_303 rfl ?_
      refine zz_iload h dLA_law_304 rfl ?_
      refine zz_iconst (v := 1) h dLA_law_306 zz_li_1 ?_
      refine zz_iadd h dLA_law_307 ?_
      refine zz_topi (fun v_36 => ?_)
      refine zl_sld h hB dLA_law_308 ?_
      refine zz_aload_n h dLA_law_309 rfl ?_
      refine zz_iload h dLA_law_310 rfl ?_
      refine zz_iconst (v := 2) h dLA_law_312 zz_li_2 ?_
      refine zz_iadd h dLA_law_313 ?_
      refine zz_topi (fun v_37 => ?_)
      refine zl_sld h hB dLA_law_314 ?_
      refine zg_callV h hcs (q0 := 27) (As := [.int (xs v_36.toNatClampNeg), .int (xs v_37.toNatClampNeg)]) (rest := []) rfl rfl (zl_M hap s_34 (MO_poke_c hVm _ _ _)) MO_poke_k zm_LA_77 rfl rfl ⟨Nat.le_of_ble_eq_true rfl, Nat.le_of_ble_eq_true rfl⟩ rfl rfl (Nat.le_of_ble_eq_true rfl) dLA_law_315 (fun _ s_38 => ?_)
      show zz_Z (zl_V l D aC aM aO cC cM cO tb) E 7 (c0 + 1) (s0 + 6) (zl_fin E b) _ _ _ ([]) _
      refine zz_aload_n h dLA_law_318 rfl ?_
      refine zg_callV h hcs (q0 := 27) (As := []) (rest := []) rfl rfl (zl_M hap s_38 (MO_thrown_c hVm _)) MO_thrown_k zm_LA_63 rfl rfl ⟨Nat.le_of_ble_eq_true rfl, Nat.le_of_ble_eq_true rfl⟩ rfl rfl (Nat.le_of_ble_eq_true rfl) dLA_law_319 (fun r_40 s_39 => ?_)
      show zz_Z (zl_V l D aC aM aO cC cM cO tb) E 7 (c0 + 1) (s0 + 6) (zl_fin E b) _ _ _ (.int r_40 :: []) _
      refine zz_iload h dLA_law_322 rfl ?_
      refine zz_icmp_eq h 329 dLA_law_324 rfl ?_ ?_
      · refine zz_goto h 845 dLA_law_329 rfl ?_
        exact zz_sub (LA_law_845_w hap hVc hVm htr h hB hE hcs hnw hk23 _ _) rfl
      · refine zz_iconst (v := 0) h dLA_law_327 zz_li_0 ?_
        exact zl_ret0
    refine zz_ite (fun c_41 => ?_) (fun c_41 => ?_)
    · refine zz_table (off := 293) h 332 dLA_law_39 c_41 (by decide) (by decide) (by decide) rfl ?_
      refine zz_aload_n h dLA_law_332 rfl ?_
      refine zz_aload_n h dLA_law_333 rfl ?_
      refine zz_iload h dLA_law_334 rfl ?_
      refine zz_iconst (v := 1) h dLA_law_336 zz_li_1 ?_
      refine zz_iadd h dLA_law_337 ?_
      refine zz_topi (fun v_42 => ?_)
      refine zl_sld h hB dLA_law_338 ?_
      refine zz_aload_n h dLA_law_339 rfl ?_
      refine zg_callSW h hcs (As := [.ref (aC 0), .int (xs v_42.toNatClampNeg), .ref aO]) (rest := []) (LA_peek_c hap hVc htr _ _) LA_peek_kW zm_LA_78 rfl rfl ⟨Nat.le_of_ble_eq_true rfl, Nat.le_of_ble_eq_true rfl⟩ rfl rfl (Nat.le_of_ble_eq_true rfl) dLA_law_340 hnw (fun r_44 s_43 => ?_)
      refine zz_istore h dLA_law_343 (Nat.le_of_ble_eq_true rfl) ?_
      refine zz_aload_n h dLA_law_345 rfl ?_
      refine zz_aload_n h dLA_law_346 rfl ?_
      refine zz_iload h dLA_law_347 rfl ?_
      refine zz_iconst (v := 1) h dLA_law_349 zz_li_1 ?_
      refine zz_iadd h dLA_law_350 ?_
      refine zz_topi (fun v_45 => ?_)
      refine zl_sld h hB dLA_law_351 ?_
      refine zg_callV h hcs (q0 := 27) (As := [.int (xs v_45.toNatClampNeg)]) (rest := []) rfl rfl (zl_M hap s_43 (MO_peek_c hVm _ _)) MO_peek_k zm_LA_80 rfl rfl ⟨Nat.le_of_ble_eq_true rfl, Nat.le_of_ble_eq_true rfl⟩ rfl rfl (Nat.le_of_ble_eq_true rfl) dLA_law_352 (fun r_47 s_46 => ?_)
      show zz_Z (zl_V l D aC aM aO cC cM cO tb) E 7 (c0 + 1) (s0 + 6) (zl_fin E b) _ _ _ (.int r_47 :: []) _
      refine zz_istore h dLA_law_355 (Nat.le_of_ble_eq_true rfl) ?_
      refine zz_aload_n h dLA_law_357 rfl ?_
      refine zg_callV h hcs (q0 := 27) (As := []) (rest := []) rfl rfl (zl_M hap s_46 (MO_thrown_c hVm _)) MO_thrown_k zm_LA_63 rfl rfl ⟨Nat.le_of_ble_eq_true rfl, Nat.le_of_ble_eq_true rfl⟩ rfl rfl (Nat.le_of_ble_eq_true rfl) dLA_law_358 (fun r_49 s_48 => ?_)
      show zz_Z (zl_V l D aC aM aO cC cM cO tb) E 7 (c0 + 1) (s0 + 6) (zl_fin E b) _ _ _ (.int r_49 :: []) _
      refine zz_iload h dLA_law_361 rfl ?_
      refine zz_icmp_eq h 368 dLA_law_363 rfl ?_ ?_
      · refine zz_iload h dLA_law_368 rfl ?_
        refine zz_if_ne h 385 dLA_law_370 rfl ?_ ?_
        · refine zz_aload_n h dLA_law_373 rfl ?_
          refine zz_iconst (v := 0) h dLA_law_374 zz_li_0 ?_
          refine zz_lald h 45 6 rfl rfl dLA_law_375 ?_
          refine zz_iload h dLA_law_376 rfl ?_
          refine zz_i2l h dLA_law_378 ?_
          refine zz_lcmp h dLA_law_379 ?_
          refine zz_if_eq h 385 dLA_law_380 rfl ?_ ?_
          · exact zz_sub (LA_law_385_w hap hVc hVm htr h hB hE hcs hnw hk23 _ _) rfl
          · refine zz_iconst (v := 0) h dLA_law_383 zz_li_0 ?_
            exact zl_ret0
        · exact zz_sub (LA_law_385_w hap hVc hVm htr h hB hE hcs hnw hk23 _ _) rfl
      · refine zz_iconst (v := 0) h dLA_law_366 zz_li_0 ?_
        exact zl_ret0
    refine zz_ite (fun c_50 => ?_) (fun c_50 => ?_)
    · refine zz_table (off := 349) h 388 dLA_law_39 c_50 (by decide) (by decide) (by decide) rfl ?_
      refine zz_aload_n h dLA_law_388 rfl ?_
      refine zz_aload_n h dLA_law_389 rfl ?_
      refine zz_iload h dLA_law_390 rfl ?_
      refine zz_iconst (v := 1) h dLA_law_392 zz_li_1 ?_
      refine zz_iadd h dLA_law_393 ?_
      refine zz_topi (fun v_51 => ?_)
      refine zl_sld h hB dLA_law_394 ?_
      refine zz_aload_n h dLA_law_395 rfl ?_
      refine zz_iload h dLA_law_396 rfl ?_
      refine zz_iconst (v := 2) h dLA_law_398 zz_li_2 ?_
      refine zz_iadd h dLA_law_399 ?_
      refine zz_topi (fun v_52 => ?_)
      refine zl_sld h hB dLA_law_400 ?_
      refine zz_aload_n h dLA_law_401 rfl ?_
      refine zg_callSW h hcs (As := [.ref (aC 0), .int (xs v_51.toNatClampNeg), .int (xs v_52.toNatClampNeg), .ref aO]) (rest := []) (LA_start_c hap hVc htr _ _ _) LA_start_kW zm_LA_81 rfl rfl ⟨Nat.le_of_ble_eq_true rfl, Nat.le_of_ble_eq_true rfl⟩ rfl rfl (Nat.le_of_ble_eq_true rfl) dLA_law_402 hnw (fun r_54 s_53 => ?_)
      refine zz_istore h dLA_law_405 (Nat.le_of_ble_eq_true rfl) ?_
      refine zz_aload_n h dLA_law_407 rfl ?_
      refine zz_aload_n h dLA_law_408 rfl ?_
      refine zz_iload h dLA_law_409 rfl ?_
      refine zz_iconst (v := 1) h dLA_law_411 zz_li_1 ?_
      refine zz_iadd h dLA_law_412 ?_
      refine zz_topi (fun v_55 => ?_)
      refine zl_sld h hB dLA_law_413 ?_
      refine zz_aload_n h dLA_law_414 rfl ?_
      refine zz_iload h dLA_law_415 rfl ?_
      refine zz_iconst (v := 2) h dLA_law_417 zz_li_2 ?_
      refine zz_iadd h dLA_law_418 ?_
      refine zz_topi (fun v_56 => ?_)
      refine zl_sld h hB dLA_law_419 ?_
      refine zg_callV h hcs (q0 := 27) (As := [.int (xs v_55.toNatClampNeg), .int (xs v_56.toNatClampNeg)]) (rest := []) rfl rfl (zl_M hap s_53 (MO_start_c hVm _ _ _)) MO_start_k zm_LA_84 rfl rfl ⟨Nat.le_of_ble_eq_true rfl, Nat.le_of_ble_eq_true rfl⟩ rfl rfl (Nat.le_of_ble_eq_true rfl) dLA_law_420 (fun r_58 s_57 => ?_)
      show zz_Z (zl_V l D aC aM aO cC cM cO tb) E 7 (c0 + 1) (s0 + 6) (zl_fin E b) _ _ _ (.int r_58 :: []) _
      refine zz_istore h dLA_law_423 (Nat.le_of_ble_eq_true rfl) ?_
      refine zz_aload_n h dLA_law_425 rfl ?_
      refine zg_callV h hcs (q0 := 27) (As := []) (rest := []) rfl rfl (zl_M hap s_57 (MO_thrown_c hVm _)) MO_thrown_k zm_LA_63 rfl rfl ⟨Nat.le_of_ble_eq_true rfl, Nat.le_of_ble_eq_true rfl⟩ rfl rfl (Nat.le_of_ble_eq_true rfl) dLA_law_426 (fun r_60 s_59 => ?_)
      show zz_Z (zl_V l D aC aM aO cC cM cO tb) E 7 (c0 + 1) (s0 + 6) (zl_fin E b) _ _ _ (.int r_60 :: []) _
      refine zz_iload h dLA_law_429 rfl ?_
      refine zz_icmp_eq h 436 dLA_law_431 rfl ?_ ?_
      · refine zz_iload h dLA_law_436 rfl ?_
        refine zz_if_ne h 453 dLA_law_438 rfl ?_ ?_
        · refine zz_aload_n h dLA_law_441 rfl ?_
          refine zz_iconst (v := 0) h dLA_law_442 zz_li_0 ?_
          refine zz_lald h 45 6 rfl rfl dLA_law_443 ?_
          refine zz_iload h dLA_law_444 rfl ?_
          refine zz_i2l h dLA_law_446 ?_
          refine zz_lcmp h dLA_law_447 ?_
          refine zz_if_eq h 453 dLA_law_448 rfl ?_ ?_
          · exact zz_sub (LA_law_453_w hap hVc hVm htr h hB hE hcs hnw hk23 _ _) rfl
          · refine zz_iconst (v := 0) h dLA_law_451 zz_li_0 ?_
            exact zl_ret0
        · exact zz_sub (LA_law_453_w hap hVc hVm htr h hB hE hcs hnw hk23 _ _) rfl
      · refine zz_iconst (v := 0) h dLA_law_434 zz_li_0 ?_
        exact zl_ret0
    refine zz_ite (fun c_61 => ?_) (fun c_61 => ?_)
    · refine zz_table (off := 417) h 456 dLA_law_39 c_61 (by decide) (by decide) (by decide) rfl ?_
      refine zz_aload_n h dLA_law_456 rfl ?_
      refine zz_aload_n h dLA_law_457 rfl ?_
      refine zz_iload h dLA_law_458 rfl ?_
      refine zz_iconst (v := 1) h dLA_law_460 zz_li_1 ?_
      refine zz_iadd h dLA_law_461 ?_
      refine zz_topi (fun v_62 => ?_)
      refine zl_sld h hB dLA_law_462 ?_
      refine zz_aload_n h dLA_law_463 rfl ?_
      refine zg_callSW h hcs (As := [.ref (aC 0), .int (xs v_62.toNatClampNeg), .ref aO]) (rest := []) (LA_run_c hap hVc htr _ _) LA_run_kW zm_LA_85 rfl rfl ⟨Nat.le_of_ble_eq_true rfl, Nat.le_of_ble_eq_true rfl⟩ rfl rfl (Nat.le_of_ble_eq_true rfl) dLA_law_464 hnw (fun r_64 s_63 => ?_)
      refine zz_istore h dLA_law_467 (Nat.le_of_ble_eq_true rfl) ?_
      refine zz_aload_n h dLA_law_469 rfl ?_
      refine zz_aload_n h dLA_law_470 rfl ?_
      refine zz_iload h dLA_law_471 rfl ?_
      refine zz_iconst (v := 1) h dLA_law_473 zz_li_1 ?_
      refine zz_iadd h dLA_law_474 ?_
      refine zz_topi (fun v_65 => ?_)
      refine zl_sld h hB dLA_law_475 ?_
      refine zg_callV h hcs (q0 := 27) (As := [.int (xs v_65.toNatClampNeg)]) (rest := []) rfl rfl (zl_M hap s_63 (MO_run_c hVm _ _)) MO_run_k zm_LA_87 rfl rfl ⟨Nat.le_of_ble_eq_true rfl, Nat.le_of_ble_eq_true rfl⟩ rfl rfl (Nat.le_of_ble_eq_true rfl) dLA_law_476 (fun r_67 s_66 => ?_)
      show zz_Z (zl_V l D aC aM aO cC cM cO tb) E 7 (c0 + 1) (s0 + 6) (zl_fin E b) _ _ _ (.int r_67 :: []) _
      refine zz_istore h dLA_law_479 (Nat.le_of_ble_eq_true rfl) ?_
      refine zz_aload_n h dLA_law_481 rfl ?_
      refine zg_callV h hcs (q0 := 27) (As := []) (rest := []) rfl rfl (zl_M hap s_66 (MO_thrown_c hVm _)) MO_thrown_k zm_LA_63 rfl rfl ⟨Nat.le_of_ble_eq_true rfl, Nat.le_of_ble_eq_true rfl⟩ rfl rfl (Nat.le_of_ble_eq_true rfl) dLA_law_482 (fun r_69 s_68 => ?_)
      show zz_Z (zl_V l D aC aM aO cC cM cO tb) E 7 (c0 + 1) (s0 + 6) (zl_fin E b) _ _ _ (.int r_69 :: []) _
      refine zz_iload h dLA_law_485 rfl ?_
      refine zz_icmp_eq h 492 dLA_law_487 rfl ?_ ?_
      · refine zz_iload h dLA_law_492 rfl ?_
        refine zz_if_ne h 509 dLA_law_494 rfl ?_ ?_
        · refine zz_aload_n h dLA_law_497 rfl ?_
          refine zz_iconst (v := 0) h dLA_law_498 zz_li_0 ?_
          refine zz_lald h 45 6 rfl rfl dLA_law_499 ?_
          refine zz_iload h dLA_law_500 rfl ?_
          refine zz_i2l h dLA_law_502 ?_
          refine zz_lcmp h dLA_law_503 ?_
          refine zz_if_eq h 509 dLA_law_504 rfl ?_ ?_
          · exact zz_sub (LA_law_509_w hap hVc hVm htr h hB hE hcs hnw hk23 _ _) rfl
          · refine zz_iconst (v := 0) h dLA_law_507 zz_li_0 ?_
            exact zl_ret0
        · exact zz_sub (LA_law_509_w hap hVc hVm htr h hB hE hcs hnw hk23 _ _) rfl
      · refine zz_iconst (v := 0) h dLA_law_490 zz_li_0 ?_
        exact zl_ret0
    refine zz_ite (fun c_70 => ?_) (fun c_70 => ?_)
    · refine zz_table (off := 473) h 512 dLA_law_39 c_70 (by decide) (by decide) (by decide) rfl ?_
      refine zz_aload_n h dLA_law_512 rfl ?_
      refine zz_aload_n h dLA_law_513 rfl ?_
      refine zz_iload h dLA_law_514 rfl ?_
      refine zz_iconst (v := 1) h dLA_law_516 zz_li_1 ?_
      refine zz_iadd h dLA_law_517 ?_
      refine zz_topi (fun v_71 => ?_)
      refine zl_sld h hB dLA_law_518 ?_
      refine zg_callSW h hcs (As := [.ref (aC 0), .int (xs v_71.toNatClampNeg)]) (rest := []) (LA_resume_c hap hVc htr _ _) LA_resume_kW zm_LA_88 rfl rfl ⟨Nat.le_of_ble_eq_true rfl, Nat.le_of_ble_eq_true rfl⟩ rfl rfl (Nat.le_of_ble_eq_true rfl) dLA_law_519 hnw (fun r_73 s_72 => ?_)
      refine zz_istore h dLA_law_522 (Nat.le_of_ble_eq_true rfl) ?_
      refine zz_aload_n h dLA_law_524 rfl ?_
      refine zz_aload_n h dLA_law_525 rfl ?_
      refine zz_iload h dLA_law_526 rfl ?_
      refine zz_iconst (v := 1) h dLA_law_528 zz_li_1 ?_
      refine zz_iadd h dLA_law_529 ?_
      refine zz_topi (fun v_74 => ?_)
      refine zl_sld h hB dLA_law_530 ?_
      refine zg_callV h hcs (q0 := 27) (As := [.int (xs v_74.toNatClampNeg)]) (rest := []) rfl rfl (zl_M hap s_72 (MO_resume_c hVm _ _)) MO_resume_k zm_LA_91 rfl rfl ⟨Nat.le_of_ble_eq_true rfl, Nat.le_of_ble_eq_true rfl⟩ rfl rfl (Nat.le_of_ble_eq_true rfl) dLA_law_531 (fun _ s_75 => ?_)
      show zz_Z (zl_V l D aC aM aO cC cM cO tb) E 7 (c0 + 1) (s0 + 6) (zl_fin E b) _ _ _ ([]) _
      refine zz_aload_n h dLA_law_534 rfl ?_
      refine zg_callV h hcs (q0 := 27) (As := []) (rest := []) rfl rfl (zl_M hap s_75 (MO_thrown_c hVm _)) MO_thrown_k zm_LA_63 rfl rfl ⟨Nat.le_of_ble_eq_true rfl, Nat.le_of_ble_eq_true rfl⟩ rfl rfl (Nat.le_of_ble_eq_true rfl) dLA_law_535 (fun r_77 s_76 => ?_)
      show zz_Z (zl_V l D aC aM aO cC cM cO tb) E 7 (c0 + 1) (s0 + 6) (zl_fin E b) _ _ _ (.int r_77 :: []) _
      refine zz_iload h dLA_law_538 rfl ?_
      refine zz_icmp_eq h 545 dLA_law_540 rfl ?_ ?_
      · refine zz_goto h 845 dLA_law_545 rfl ?_
        exact zz_sub (LA_law_845_w hap hVc hVm htr h hB hE hcs hnw hk23 _ _) rfl
      · refine zz_iconst (v := 0) h dLA_law_543 zz_li_0 ?_
        exact zl_ret0
    refine zz_ite (fun c_78 => ?_) (fun c_78 => ?_)
    · refine zz_table (off := 509) h 548 dLA_law_39 c_78 (by decide) (by decide) (by decide) rfl ?_
      refine zz_aload_n h dLA_law_548 rfl ?_
      refine zz_aload_n h dLA_law_549 rfl ?_
      refine zz_iload h dLA_law_550 rfl ?_
      refine zz_iconst (v := 1) h dLA_law_552 zz_li_1 ?_
      refine zz_iadd h dLA_law_553 ?_
      refine zz_topi (fun v_79 => ?_)
      refine zl_sld h hB dLA_law_554 ?_
      refine zg_callSW h hcs (As := [.ref (aC 0), .int (xs v_79.toNatClampNeg)]) (rest := []) (LA_kill_c hap hVc htr _ _) LA_kill_kW zm_LA_92 rfl rfl ⟨Nat.le_of_ble_eq_true rfl, Nat.le_of_ble_eq_true rfl⟩ rfl rfl (Nat.le_of_ble_eq_true rfl) dLA_law_555 hnw (fun r_81 s_80 => ?_)
      refine zz_istore h dLA_law_558 (Nat.le_of_ble_eq_true rfl) ?_
      refine zz_aload_n h dLA_law_560 rfl ?_
      refine zz_aload_n h dLA_law_561 rfl ?_
      refine zz_iload h dLA_law_562 rfl ?_
      refine zz_iconst (v := 1) h dLA_law_564 zz_li_1 ?_
      refine zz_iadd h dLA_law_565 ?_
      refine zz_topi (fun v_82 => ?_)
      refine zl_sld h hB dLA_law_566 ?_
      refine zg_callV h hcs (q0 := 27) (As := [.int (xs v_82.toNatClampNeg)]) (rest := []) rfl rfl (zl_M hap s_80 (MO_kill_c hVm _ _)) MO_kill_k zm_LA_94 rfl rfl ⟨Nat.le_of_ble_eq_true rfl, Nat.le_of_ble_eq_true rfl⟩ rfl rfl (Nat.le_of_ble_eq_true rfl) dLA_law_567 (fun _ s_83 => ?_)
      show zz_Z (zl_V l D aC aM aO cC cM cO tb) E 7 (c0 + 1) (s0 + 6) (zl_fin E b) _ _ _ ([]) _
      refine zz_aload_n h dLA_law_570 rfl ?_
      refine zg_callV h hcs (q0 := 27) (As := []) (rest := []) rfl rfl (zl_M hap s_83 (MO_thrown_c hVm _)) MO_thrown_k zm_LA_63 rfl rfl ⟨Nat.le_of_ble_eq_true rfl, Nat.le_of_ble_eq_true rfl⟩ rfl rfl (Nat.le_of_ble_eq_true rfl) dLA_law_571 (fun r_85 s_84 => ?_)
      show zz_Z (zl_V l D aC aM aO cC cM cO tb) E 7 (c0 + 1) (s0 + 6) (zl_fin E b) _ _ _ (.int r_85 :: []) _
      refine zz_iload h dLA_law_574 rfl ?_
      refine zz_icmp_eq h 581 dLA_law_576 rfl ?_ ?_
      · refine zz_goto h 845 dLA_law_581 rfl ?_
        exact zz_sub (LA_law_845_w hap hVc hVm htr h hB hE hcs hnw hk23 _ _) rfl
      · refine zz_iconst (v := 0) h dLA_law_579 zz_li_0 ?_
        exact zl_ret0
    refine zz_ite (fun c_86 => ?_) (fun c_86 => ?_)
    · refine zz_table (off := 545) h 584 dLA_law_39 c_86 (by decide) (by decide) (by decide) rfl ?_
      refine zz_aload_n h dLA_law_584 rfl ?_
      refine zz_aload_n h dLA_law_585 rfl ?_
      refine zz_iload h dLA_law_586 rfl ?_
      refine zz_iconst (v := 1) h dLA_law_588 zz_li_1 ?_
      refine zz_iadd h dLA_law_589 ?_
      refine zz_topi (fun v_87 => ?_)
      refine zl_sld h hB dLA_law_590 ?_
      refine zz_aload_n h dLA_law_591 rfl ?_
      refine zg_callSW h hcs (As := [.ref (aC 0), .int (xs v_87.toNatClampNeg), .ref aO]) (rest := []) (LA_interrupt_c hap hVc htr _ _) LA_interrupt_kW zm_LA_95 rfl rfl ⟨Nat.le_of_ble_eq_true rfl, Nat.le_of_ble_eq_true rfl⟩ rfl rfl (Nat.le_of_ble_eq_true rfl) dLA_law_592 hnw (fun r_89 s_88 => ?_)
      refine zz_istore h dLA_law_595 (Nat.le_of_ble_eq_true rfl) ?_
      refine zz_aload_n h dLA_law_597 rfl ?_
      refine zz_aload_n h dLA_law_598 rfl ?_
      refine zz_iload h dLA_law_599 rfl ?_
      refine zz_iconst (v := 1) h dLA_law_601 zz_li_1 ?_
      refine zz_iadd h dLA_law_602 ?_
      refine zz_topi (fun v_90 => ?_)
      refine zl_sld h hB dLA_law_603 ?_
      refine zg_callV h hcs (q0 := 27) (As := [.int (xs v_90.toNatClampNeg)]) (rest := []) rfl rfl (zl_M hap s_88 (MO_interrupt_c hVm _ _)) MO_interrupt_k zm_LA_97 rfl rfl ⟨Nat.le_of_ble_eq_true rfl, Nat.le_of_ble_eq_true rfl⟩ rfl rfl (Nat.le_of_ble_eq_true rfl) dLA_law_604 (fun r_92 s_91 => ?_)
      show zz_Z (zl_V l D aC aM aO cC cM cO tb) E 7 (c0 + 1) (s0 + 6) (zl_fin E b) _ _ _ (.int r_92 :: []) _
      refine zz_istore h dLA_law_607 (Nat.le_of_ble_eq_true rfl) ?_
      refine zz_aload_n h dLA_law_609 rfl ?_
      refine zg_callV h hcs (q0 := 27) (As := []) (rest := []) rfl rfl (zl_M hap s_91 (MO_thrown_c hVm _)) MO_thrown_k zm_LA_63 rfl rfl ⟨Nat.le_of_ble_eq_true rfl, Nat.le_of_ble_eq_true rfl⟩ rfl rfl (Nat.le_of_ble_eq_true rfl) dLA_law_610 (fun r_94 s_93 => ?_)
      show zz_Z (zl_V l D aC aM aO cC cM cO tb) E 7 (c0 + 1) (s0 + 6) (zl_fin E b) _ _ _ (.int r_94 :: []) _
      refine zz_iload h dLA_law_613 rfl ?_
      refine zz_icmp_eq h 620 dLA_law_615 rfl ?_ ?_
      · refine zz_iload h dLA_law_620 rfl ?_
        refine zz_if_ne h 637 dLA_law_622 rfl ?_ ?_
        · refine zz_aload_n h dLA_law_625 rfl ?_
          refine zz_iconst (v := 0) h dLA_law_626 zz_li_0 ?_
          refine zz_lald h 45 6 rfl rfl dLA_law_627 ?_
          refine zz_iload h dLA_law_628 rfl ?_
          refine zz_i2l h dLA_law_630 ?_
          refine zz_lcmp h dLA_law_631 ?_
          refine zz_if_eq h 637 dLA_law_632 rfl ?_ ?_
          · exact zz_sub (LA_law_637_w hap hVc hVm htr h hB hE hcs hnw hk23 _ _) rfl
          · refine zz_iconst (v := 0) h dLA_law_635 zz_li_0 ?_
            exact zl_ret0
        · exact zz_sub (LA_law_637_w hap hVc hVm htr h hB hE hcs hnw hk23 _ _) rfl
      · refine zz_iconst (v := 0) h dLA_law_618 zz_li_0 ?_
        exact zl_ret0
    refine zz_ite (fun c_95 => ?_) (fun c_95 => ?_)
    · refine zz_table (off := 601) h 640 dLA_law_39 c_95 (by decide) (by decide) (by decide) rfl ?_
      refine zz_aload_n h dLA_law_640 rfl ?_
      refine zz_aload_n h dLA_law_641 rfl ?_
      refine zz_iload h dLA_law_642 rfl ?_
      refine zz_iconst (v := 1) h dLA_law_644 zz_li_1 ?_
      refine zz_iadd h dLA_law_645 ?_
      refine zz_topi (fun v_96 => ?_)
      refine zl_sld h hB dLA_law_646 ?_
      refine zz_aload_n h dLA_law_647 rfl ?_
      refine zg_callSW h hcs (As := [.ref (aC 0), .int (xs v_96.toNatClampNeg), .ref aO]) (rest := []) (LA_tick_c hap hVc htr _ _) LA_tick_kW zm_LA_98 rfl rfl ⟨Nat.le_of_ble_eq_true rfl, Nat.le_of_ble_eq_true rfl⟩ rfl rfl (Nat.le_of_ble_eq_true rfl) dLA_law_648 hnw (fun r_98 s_97 => ?_)
      refine zz_istore h dLA_law_651 (Nat.le_of_ble_eq_true rfl) ?_
      refine zz_aload_n h dLA_law_653 rfl ?_
      refine zz_aload_n h dLA_law_654 rfl ?_
      refine zz_iload h dLA_law_655 rfl ?_
      refine zz_iconst (v := 1) h dLA_law_657 zz_li_1 ?_
      refine zz_iadd h dLA_law_658 ?_
      refine zz_topi (fun v_99 => ?_)
      refine zl_sld h hB dLA_law_659 ?_
      refine zg_callV h hcs (q0 := 27) (As := [.int (xs v_99.toNatClampNeg)]) (rest := []) rfl rfl (zl_M hap s_97 (MO_tick_c hVm _ _)) MO_tick_k zm_LA_100 rfl rfl ⟨Nat.le_of_ble_eq_true rfl, Nat.le_of_ble_eq_true rfl⟩ rfl rfl (Nat.le_of_ble_eq_true rfl) dLA_law_660 (fun r_101 s_100 => ?_)
      show zz_Z (zl_V l D aC aM aO cC cM cO tb) E 7 (c0 + 1) (s0 + 6) (zl_fin E b) _ _ _ (.int r_101 :: []) _
      refine zz_istore h dLA_law_663 (Nat.le_of_ble_eq_true rfl) ?_
      refine zz_aload_n h dLA_law_665 rfl ?_
      refine zg_callV h hcs (q0 := 27) (As := []) (rest := []) rfl rfl (zl_M hap s_100 (MO_thrown_c hVm _)) MO_thrown_k zm_LA_63 rfl rfl ⟨Nat.le_of_ble_eq_true rfl, Nat.le_of_ble_eq_true rfl⟩ rfl rfl (Nat.le_of_ble_eq_true rfl) dLA_law_666 (fun r_103 s_102 => ?_)
      show zz_Z (zl_V l D aC aM aO cC cM cO tb) E 7 (c0 + 1) (s0 + 6) (zl_fin E b) _ _ _ (.int r_103 :: []) _
      refine zz_iload h dLA_law_669 rfl ?_
      refine zz_icmp_eq h 676 dLA_law_671 rfl ?_ ?_
      · refine zz_iload h dLA_law_676 rfl ?_
        refine zz_if_ne h 693 dLA_law_678 rfl ?_ ?_
        · refine zz_aload_n h dLA_law_681 rfl ?_
          refine zz_iconst (v := 0) h dLA_law_682 zz_li_0 ?_
          refine zz_lald h 45 6 rfl rfl dLA_law_683 ?_
          refine zz_iload h dLA_law_684 rfl ?_
          refine zz_i2l h dLA_law_686 ?_
          refine zz_lcmp h dLA_law_687 ?_
          refine zz_if_eq h 693 dLA_law_688 rfl ?_ ?_
          · exact zz_sub (LA_law_693_w hap hVc hVm htr h hB hE hcs hnw hk23 _ _) rfl
          · refine zz_iconst (v := 0) h dLA_law_691 zz_li_0 ?_
            exact zl_ret0
        · exact zz_sub (LA_law_693_w hap hVc hVm htr h hB hE hcs hnw hk23 _ _) rfl
      · refine zz_iconst (v := 0) h dLA_law_674 zz_li_0 ?_
        exact zl_ret0
    refine zz_ite (fun c_104 => ?_) (fun c_104 => ?_)
    · refine zz_table (off := 657) h 696 dLA_law_39 c_104 (by decide) (by decide) (by decide) rfl ?_
      refine zz_aload_n h dLA_law_696 rfl ?_
      refine zg_callV h (zz_cs0 hcs) (q0 := 0) (As := []) (rest := []) rfl rfl (zl_C hap st (FP_running_c hVc _)) FP_running_k zm_LA_101 rfl rfl ⟨Nat.le_of_ble_eq_true rfl, Nat.le_of_ble_eq_true rfl⟩ rfl rfl (Nat.le_of_ble_eq_true rfl) dLA_law_697 (fun r_106 s_105 => ?_)
      show zz_Z (zl_V l D aC aM aO cC cM cO tb) E 7 c0 s0 (zl_fin E b) _ _ _ (.int r_106 :: []) _
      refine zz_aload_n h dLA_law_700 rfl ?_
      refine zg_callV h (zz_cs0 hcs) (q0 := 27) (As := []) (rest := [.int r_106]) rfl rfl (zl_M hap s_105 (MO_running_c hVm _)) MO_running_k zm_LA_104 rfl rfl ⟨Nat.le_of_ble_eq_true rfl, Nat.le_of_ble_eq_true rfl⟩ rfl rfl (Nat.le_of_ble_eq_true rfl) dLA_law_701 (fun r_108 s_107 => ?_)
      show zz_Z (zl_V l D aC aM aO cC cM cO tb) E 7 c0 s0 (zl_fin E b) _ _ _ (.int r_108 :: .int r_106 :: []) _
      refine zz_icmp_eq h 845 dLA_law_704 rfl ?_ ?_
      · exact zz_widen (Nat.le_add_right _ 1) (Nat.le_add_right _ 6) (zz_sub (LA_law_845_w hap hVc hVm htr h hB hE hcs hnw hk23 _ _) rfl)
      · refine zz_iconst (v := 0) h dLA_law_707 zz_li_0 ?_
        exact zl_ret0
    refine zz_ite (fun c_109 => ?_) (fun c_109 => ?_)
    · refine zz_table (off := 670) h 709 dLA_law_39 c_109 (by decide) (by decide) (by decide) rfl ?_
      refine zz_aload_n h dLA_law_709 rfl ?_
      refine zz_aload_n h dLA_law_710 rfl ?_
      refine zz_iload h dLA_law_711 rfl ?_
      refine zz_iconst (v := 1) h dLA_law_713 zz_li_1 ?_
      refine zz_iadd h dLA_law_714 ?_
      refine zz_topi (fun v_110 => ?_)
      refine zl_sld h hB dLA_law_715 ?_
      refine zz_aload_n h dLA_law_716 rfl ?_
      refine zz_iload h dLA_law_717 rfl ?_
      refine zz_iconst (v := 2) h dLA_law_719 zz_li_2 ?_
      refine zz_iadd h dLA_law_720 ?_
      refine zz_topi (fun v_111 => ?_)
      refine zl_sld h hB dLA_law_721 ?_
      refine zg_callV h (zz_cs0 hcs) (q0 := 0) (As := [.int (xs v_110.toNatClampNeg), .int (xs v_111.toNatClampNeg)]) (rest := []) rfl rfl (zl_C hap st (FP_process_c hVc _ _ _)) FP_process_k zm_LA_105 rfl rfl ⟨Nat.le_of_ble_eq_true rfl, Nat.le_of_ble_eq_true rfl⟩ rfl rfl (Nat.le_of_ble_eq_true rfl) dLA_law_722 (fun r_113 s_112 => ?_)
      show zz_Z (zl_V l D aC aM aO cC cM cO tb) E 7 c0 s0 (zl_fin E b) _ _ _ (.int r_113 :: []) _
      refine zz_aload_n h dLA_law_725 rfl ?_
      refine zz_aload_n h dLA_law_726 rfl ?_
      refine zz_iload h dLA_law_727 rfl ?_
      refine zz_iconst (v := 1) h dLA_law_729 zz_li_1 ?_
      refine zz_iadd h dLA_law_730 ?_
      refine zz_topi (fun v_114 => ?_)
      refine zl_sld h hB dLA_law_731 ?_
      refine zz_aload_n h dLA_law_732 rfl ?_
      refine zz_iload h dLA_law_733 rfl ?_
      refine zz_iconst (v := 2) h dLA_law_735 zz_li_2 ?_
      refine zz_iadd h dLA_law_736 ?_
      refine zz_topi (fun v_115 => ?_)
      refine zl_sld h hB dLA_law_737 ?_
      refine zg_callV h (zz_cs0 hcs) (q0 := 27) (As := [.int (xs v_114.toNatClampNeg), .int (xs v_115.toNatClampNeg)]) (rest := [.int r_113]) rfl rfl (zl_M hap s_112 (MO_process_c hVm _ _ _)) MO_process_k zm_LA_108 rfl rfl ⟨Nat.le_of_ble_eq_true rfl, Nat.le_of_ble_eq_true rfl⟩ rfl rfl (Nat.le_of_ble_eq_true rfl) dLA_law_738 (fun r_117 s_116 => ?_)
      show zz_Z (zl_V l D aC aM aO cC cM cO tb) E 7 c0 s0 (zl_fin E b) _ _ _ (.int r_117 :: .int r_113 :: []) _
      refine zz_icmp_eq h 845 dLA_law_741 rfl ?_ ?_
      · exact zz_widen (Nat.le_add_right _ 1) (Nat.le_add_right _ 6) (zz_sub (LA_law_845_w hap hVc hVm htr h hB hE hcs hnw hk23 _ _) rfl)
      · refine zz_iconst (v := 0) h dLA_law_744 zz_li_0 ?_
        exact zl_ret0
    refine zz_ite (fun c_118 => ?_) (fun c_118 => ?_)
    · refine zz_table (off := 707) h 746 dLA_law_39 c_118 (by decide) (by decide) (by decide) rfl ?_
      refine zz_aload_n h dLA_law_746 rfl ?_
      refine zz_aload_n h dLA_law_747 rfl ?_
      refine zz_iload h dLA_law_748 rfl ?_
      refine zz_iconst (v := 1) h dLA_law_750 zz_li_1 ?_
      refine zz_iadd h dLA_law_751 ?_
      refine zz_topi (fun v_119 => ?_)
      refine zl_sld h hB dLA_law_752 ?_
      refine zz_aload_n h dLA_law_753 rfl ?_
      refine zz_iload h dLA_law_754 rfl ?_
      refine zz_iconst (v := 2) h dLA_law_756 zz_li_2 ?_
      refine zz_iadd h dLA_law_757 ?_
      refine zz_topi (fun v_120 => ?_)
      refine zl_sld h hB dLA_law_758 ?_
      refine zg_callV h (zz_cs0 hcs) (q0 := 0) (As := [.int (xs v_119.toNatClampNeg), .int (xs v_120.toNatClampNeg)]) (rest := []) rfl rfl (zl_C hap st (FP_stack_c hVc _ _ _)) FP_stack_k zm_LA_109 rfl rfl ⟨Nat.le_of_ble_eq_true rfl, Nat.le_of_ble_eq_true rfl⟩ rfl rfl (Nat.le_of_ble_eq_true rfl) dLA_law_759 (fun r_122 s_121 => ?_)
      show zz_Z (zl_V l D aC aM aO cC cM cO tb) E 7 c0 s0 (zl_fin E b) _ _ _ (.int r_122 :: []) _
      refine zz_aload_n h dLA_law_762 rfl ?_
      refine zz_aload_n h dLA_law_763 rfl ?_
      refine zz_iload h dLA_law_764 rfl ?_
      refine zz_iconst (v := 1) h dLA_law_766 zz_li_1 ?_
      refine zz_iadd h dLA_law_767 ?_
      refine zz_topi (fun v_123 => ?_)
      refine zl_sld h hB dLA_law_768 ?_
      refine zz_aload_n h dLA_law_769 rfl ?_
      refine zz_iload h dLA_law_770 rfl ?_
      refine zz_iconst (v := 2) h dLA_law_772 zz_li_2 ?_
      refine zz_iadd h dLA_law_773 ?_
      refine zz_topi (fun v_124 => ?_)
      refine zl_sld h hB dLA_law_774 ?_
      refine zg_callV h (zz_cs0 hcs) (q0 := 27) (As := [.int (xs v_123.toNatClampNeg), .int (xs v_124.toNatClampNeg)]) (rest := [.int r_122]) rfl rfl (zl_M hap s_121 (MO_stack_c hVm _ _ _)) MO_stack_k zm_LA_112 rfl rfl ⟨Nat.le_of_ble_eq_true rfl, Nat.le_of_ble_eq_true rfl⟩ rfl rfl (Nat.le_of_ble_eq_true rfl) dLA_law_775 (fun r_126 s_125 => ?_)
      show zz_Z (zl_V l D aC aM aO cC cM cO tb) E 7 c0 s0 (zl_fin E b) _ _ _ (.int r_126 :: .int r_122 :: []) _
      refine zz_icmp_eq h 845 dLA_law_778 rfl ?_ ?_
      · exact zz_widen (Nat.le_add_right _ 1) (Nat.le_add_right _ 6) (zz_sub (LA_law_845_w hap hVc hVm htr h hB hE hcs hnw hk23 _ _) rfl)
      · refine zz_iconst (v := 0) h dLA_law_781 zz_li_0 ?_
        exact zl_ret0
    refine zz_ite (fun c_127 => ?_) (fun c_127 => ?_)
    · refine zz_table (off := 744) h 783 dLA_law_39 c_127 (by decide) (by decide) (by decide) rfl ?_
      refine zz_aload_n h dLA_law_783 rfl ?_
      refine zz_aload_n h dLA_law_784 rfl ?_
      refine zz_iload h dLA_law_785 rfl ?_
      refine zz_iconst (v := 1) h dLA_law_787 zz_li_1 ?_
      refine zz_iadd h dLA_law_788 ?_
      refine zz_topi (fun v_128 => ?_)
      refine zl_sld h hB dLA_law_789 ?_
      refine zz_aload_n h dLA_law_790 rfl ?_
      refine zz_iload h dLA_law_791 rfl ?_
      refine zz_iconst (v := 2) h dLA_law_793 zz_li_2 ?_
      refine zz_iadd h dLA_law_794 ?_
      refine zz_topi (fun v_129 => ?_)
      refine zl_sld h hB dLA_law_795 ?_
      refine zg_callV h (zz_cs0 hcs) (q0 := 0) (As := [.int (xs v_128.toNatClampNeg), .int (xs v_129.toNatClampNeg)]) (rest := []) rfl rfl (zl_C hap st (FP_page_c hVc _ _ _)) FP_page_k zm_LA_113 rfl rfl ⟨Nat.le_of_ble_eq_true rfl, Nat.le_of_ble_eq_true rfl⟩ rfl rfl (Nat.le_of_ble_eq_true rfl) dLA_law_796 (fun r_131 s_130 => ?_)
      show zz_Z (zl_V l D aC aM aO cC cM cO tb) E 7 c0 s0 (zl_fin E b) _ _ _ (.int r_131 :: []) _
      refine zz_aload_n h dLA_law_799 rfl ?_
      refine zz_aload_n h dLA_law_800 rfl ?_
      refine zz_iload h dLA_law_801 rfl ?_
      refine zz_iconst (v := 1) h dLA_law_803 zz_li_1 ?_
      refine zz_iadd h dLA_law_804 ?_
      refine zz_topi (fun v_132 => ?_)
      refine zl_sld h hB dLA_law_805 ?_
      refine zz_aload_n h dLA_law_806 rfl ?_
      refine zz_iload h dLA_law_807 rfl ?_
      refine zz_iconst (v := 2) h dLA_law_809 zz_li_2 ?_
      refine zz_iadd h dLA_law_810 ?_
      refine zz_topi (fun v_133 => ?_)
      refine zl_sld h hB dLA_law_811 ?_
      refine zg_callV h (zz_cs0 hcs) (q0 := 27) (As := [.int (xs v_132.toNatClampNeg), .int (xs v_133.toNatClampNeg)]) (rest := [.int r_131]) rfl rfl (zl_M hap s_130 (MO_page_c hVm _ _ _)) MO_page_k zm_LA_116 rfl rfl ⟨Nat.le_of_ble_eq_true rfl, Nat.le_of_ble_eq_true rfl⟩ rfl rfl (Nat.le_of_ble_eq_true rfl) dLA_law_812 (fun r_135 s_134 => ?_)
      show zz_Z (zl_V l D aC aM aO cC cM cO tb) E 7 c0 s0 (zl_fin E b) _ _ _ (.int r_135 :: .int r_131 :: []) _
      refine zz_icmp_eq h 845 dLA_law_815 rfl ?_ ?_
      · exact zz_widen (Nat.le_add_right _ 1) (Nat.le_add_right _ 6) (zz_sub (LA_law_845_w hap hVc hVm htr h hB hE hcs hnw hk23 _ _) rfl)
      · refine zz_iconst (v := 0) h dLA_law_818 zz_li_0 ?_
        exact zl_ret0
    refine zz_ite (fun c_136 => ?_) (fun c_136 => ?_)
    · refine zz_table (off := 781) h 820 dLA_law_39 c_136 (by decide) (by decide) (by decide) rfl ?_
      refine zz_aload_n h dLA_law_820 rfl ?_
      refine zz_aload_n h dLA_law_821 rfl ?_
      refine zz_iload h dLA_law_822 rfl ?_
      refine zz_iconst (v := 1) h dLA_law_824 zz_li_1 ?_
      refine zz_iadd h dLA_law_825 ?_
      refine zz_topi (fun v_137 => ?_)
      refine zl_sld h hB dLA_law_826 ?_
      refine zg_callV h (zz_cs0 hcs) (q0 := 0) (As := [.int (xs v_137.toNatClampNeg)]) (rest := []) rfl rfl (zl_C hap st (FP_free_c hVc _ _)) FP_free_k zm_LA_117 rfl rfl ⟨Nat.le_of_ble_eq_true rfl, Nat.le_of_ble_eq_true rfl⟩ rfl rfl (Nat.le_of_ble_eq_true rfl) dLA_law_827 (fun r_139 s_138 => ?_)
      show zz_Z (zl_V l D aC aM aO cC cM cO tb) E 7 c0 s0 (zl_fin E b) _ _ _ (.int r_139 :: []) _
      refine zz_aload_n h dLA_law_830 rfl ?_
      refine zz_aload_n h dLA_law_831 rfl ?_
      refine zz_iload h dLA_law_832 rfl ?_
      refine zz_iconst (v := 1) h dLA_law_834 zz_li_1 ?_
      refine zz_iadd h dLA_law_835 ?_
      refine zz_topi (fun v_140 => ?_)
      refine zl_sld h hB dLA_law_836 ?_
      refine zg_callV h (zz_cs0 hcs) (q0 := 27) (As := [.int (xs v_140.toNatClampNeg)]) (rest := [.int r_139]) rfl rfl (zl_M hap s_138 (MO_free_c hVm _ _)) MO_free_k zm_LA_120 rfl rfl ⟨Nat.le_of_ble_eq_true rfl, Nat.le_of_ble_eq_true rfl⟩ rfl rfl (Nat.le_of_ble_eq_true rfl) dLA_law_837 (fun r_142 s_141 => ?_)
      show zz_Z (zl_V l D aC aM aO cC cM cO tb) E 7 c0 s0 (zl_fin E b) _ _ _ (.int r_142 :: .int r_139 :: []) _
      refine zz_icmp_eq h 845 dLA_law_840 rfl ?_ ?_
      · exact zz_widen (Nat.le_add_right _ 1) (Nat.le_add_right _ 6) (zz_sub (LA_law_845_w hap hVc hVm htr h hB hE hcs hnw hk23 _ _) rfl)
      · refine zz_iconst (v := 0) h dLA_law_843 zz_li_0 ?_
        exact zl_ret0
    refine zz_tableD h 845 dLA_law_39 (by have z0 := lv_neT (a := 0) c_9 (by decide); have z1 := lv_neT (a := 1) c_19 (by decide); have z2 := lv_neT (a := 2) c_22 (by decide); have z3 := lv_neT (a := 3) c_31 (by decide); have z4 := lv_neT (a := 4) c_41 (by decide); have z5 := lv_neT (a := 5) c_50 (by decide); have z6 := lv_neT (a := 6) c_61 (by decide); have z7 := lv_neT (a := 7) c_70 (by decide); have z8 := lv_neT (a := 8) c_78 (by decide); have z9 := lv_neT (a := 9) c_86 (by decide); have z10 := lv_neT (a := 10) c_95 (by decide); have z11 := lv_neT (a := 11) c_104 (by decide); have z12 := lv_neT (a := 12) c_109 (by decide); have z13 := lv_neT (a := 13) c_118 (by decide); have z14 := lv_neT (a := 14) c_127 (by decide); have z15 := lv_neT (a := 15) c_136 (by decide); omega) rfl ?_
    exact zz_widen (Nat.le_add_right _ 1) (Nat.le_add_right _ 6) (zz_sub (LA_law_845_w hap hVc hVm htr h hB hE hcs hnw hk23 _ _) rfl)
theorem LA_law_23_w {l : Launch} {D : va_G} {aC aM : Nat → Nat} {aO : Nat} {cC cM : Nat → ClassId} {cO : ClassId} {tb : Nat} {E : zz_E} {b L : Nat} {xs : Nat → Int32} (hap : ∀ st, va_D (zl_as aC aM aO) (zl_w aC aM aO cC cM cO st)) (hVc : zz_ok (zc_V l D aC cC tb)) (hVm : zz_ok (zm_V l D aM cM tb)) (htr : l.stackTraces = false) (h : zz_X (zl_V l D aC aM aO cC cM cO tb) E "FrameProcessorLaw" code 7 zt_T 12 484 (some .boolean)) (hB : zl_scr E b L xs) (hE : zl_E E b) (hnw : ∀ q, E.2.2.2.1.heap.size ≤ q → E.2.2.2.2.2.2.2.2.2.1 q) : ∀ (n c0 s0 : Nat), zz_cs E (c0 + n) (s0 + 6 * n) → ∀ (x4 : Int32) (st : zl_S), zz_Z (zl_V l D aC aM aO cC cM cO tb) E 7 c0 s0 (zl_fin E b) (LA_law_23 L xs n x4 st) 23 [(0, .ref b), (1, .ref (aC 0)), (2, .ref (aM 0)), (3, .ref aO), (4, .int x4)] [] st
  | 0, _, _, _, _, _ => zz_none
  | n + 1, c0, s0, hcs, x4, st => LA_law_23b_w hap hVc hVm htr h hB hE ⟨Nat.le_trans (by omega) hcs.1, Nat.le_trans (by omega) hcs.2⟩ hnw (LA_law_23_w hap hVc hVm htr h hB hE hnw n (c0 + 1) (s0 + 6) ⟨Nat.le_trans (by omega) hcs.1, Nat.le_trans (by omega) hcs.2⟩) x4 st
