/-! how an instruction ends -/
def z_set (s_6 : zz_S) : Option (Unit × zz_S) := (zz_nm (zz_sg s_6 17) fun v_7 => (if v_7 = (27 : Int32) then (if (zz_sg s_6 5) = 0 then (some ((), s_6)) else (zz_oc (zz_qg s_6 0) none fun t_9 => zz_gd (Nat.blt t_9 6) (zz_bd (TA_clear_f t_9 s_6) fun _ s_10 => (some ((), s_10))))) else (if v_7 = (28 : Int32) then (some ((), s_6)) else (if v_7 = (29 : Int32) then (some ((), s_6)) else (if v_7 = (30 : Int32) then (some ((), s_6)) else (if v_7 = (31 : Int32) then (zz_oc (zz_qg s_6 1) (some ((), s_6)) fun t_15 => zz_gd (Nat.blt t_15 6) (zz_oc (zz_qg s_6 1) none fun t_17 => zz_gd (Nat.blt t_17 6) (zz_bd (RO_begin_f t_17 (zz_sg s_6 11) (zz_sg s_6 12) s_6) fun _ s_18 => (some ((), s_18))))) else (if v_7 = (32 : Int32) then (some ((), s_6)) else (if v_7 = (33 : Int32) then (some ((), s_6)) else (if v_7 = (34 : Int32) then (some ((), s_6)) else (if v_7 = (35 : Int32) then (some ((), s_6)) else (if v_7 = (36 : Int32) then (some ((), s_6)) else (if v_7 = (37 : Int32) then (some ((), s_6)) else (if v_7 = (38 : Int32) then (some ((), s_6)) else (if v_7 = (39 : Int32) then (some ((), s_6)) else (if v_7 = (40 : Int32) then (some ((), s_6)) else (if v_7 = (41 : Int32) then (zz_bd (RO_wakeFirst_f (2 : Int32) (zz_sg s_6 8) s_6) fun r_30 s_29 => (some ((), s_29))) else (if v_7 = (42 : Int32) then (if (zz_sg s_6 7) = 0 then (PR_settle_208 s_6) else (zz_oc (zz_qg s_6 0) none fun t_32 => zz_gd (Nat.blt t_32 6) (zz_bd (RO_await_f t_32 (zz_sg s_6 9) (zz_sg s_6 10) s_6) fun _ s_33 => (PR_settle_208 s_33)))) else (if v_7 = (43 : Int32) then (zz_bd (RO_wakeFirst_f (3 : Int32) (zz_sg s_6 9) s_6) fun r_36 s_35 => (some ((), s_35))) else (if v_7 = (44 : Int32) then (zz_bd (RO_wakeAll_f (zz_sg s_6 9) s_6) fun _ s_38 => (some ((), s_38))) else (if v_7 = (45 : Int32) then (zz_oc (zz_qg s_6 0) none fun t_40 => zz_gd (Nat.blt t_40 6) (zz_bd (RO_makeReady_f t_40 s_6) fun _ s_41 => (some ((), s_41)))) else (some ((), s_6))))))))))))))))))))))
theorem PR_step_106_e {C : zz_S} (h6 : zz_sg C 6 = 0) : PR_step_106 C = zz_bd (PR_endAtNext_f C) fun _ s => z106 s := by
  unfold PR_step_106
  rw [if_pos h6]
  rfl
theorem zt_endJ {n D t : Nat} {c r C R : zz_S} (h : zL n D c r C R) (hn : n < 16) (ht : t < 6) (hq : zz_qg c 0 = some t) (hf : ¬ zF C) : ∃ c' C1, PR_endAtNext_f C = some ((), C1) ∧ zL n D c' r C1 R ∧ ¬ zF C1 ∧ zXc c c' := by
  have e : PR_endAtNext_f C = PR_endAtNext_19 C := by
    have e6 : ME_fail_f (6 : Int32) C = some ((), C) := zL_failJ h hf 6
    unfold PR_endAtNext_f WS_isOver_f
    by_cases o : zz_sg C 13 ≤ 8
    · rw [if_pos o, zz_bd_s, if_pos rfl]
    · rw [if_neg o, zz_bd_s, if_neg (by decide), e6, zz_bd_s]
  rw [e]
  unfold PR_endAtNext_19
  by_cases s : zz_sg C 4 = 0
  · rw [if_pos s]
    exact ⟨c, C, rfl, h, hf, rfl, rfl, rfl, fun _ _ => rfl⟩
  · rw [if_neg s]
    obtain ⟨C1, e1, e2, e3⟩ := zL_saveJ h hn ht hq hf
    rw [e1, zz_bd_s]
    exact ⟨_, C1, rfl, e2, e3, rfl, rfl, rfl, fun _ _ => rfl⟩
theorem zt_f0 {B t : Nat} {fr y0 : Int32} {c r C R : zz_S} (hG : zG B t fr c r) (h : zX t c r C R) (hf : ¬ zF C) : zr (PR_step_106 C) (MO_instruction_165 fr y0 R) (fun _ C' _ R' => zI0 (B + 1) C' R') := by
  obtain ⟨c', r', hL, hc, hr⟩ := h
  have hG0 := hG
  obtain ⟨⟨ht, hq, -⟩, -, -, -, -, h6, -⟩ := hG
  rw [PR_step_106_e (by rw [zL_c6 hL, hc.1, h6])]
  obtain ⟨c'', C1, e1, e2, e3, hc'⟩ := zt_endJ hL (by decide) ht (by rw [hc.2.2.1, hq]) hf
  rw [e1, zz_bd_s]
  have e : MO_instruction_165 fr y0 R = MO_instruction_212 fr R := by
    unfold MO_instruction_165 MO_instruction_189
    simp only [zL_R0f hL hf, if_false]
  rw [e]
  refine zt_fault hG0 ⟨c'', r', e2, ⟨hc'.1.trans hc.1, hc'.2.1.trans hc.2.1, hc'.2.2.1.trans hc.2.2.1, fun a i => (hc'.2.2.2 a i).trans (hc.2.2.2 a i)⟩, hr⟩ e3
theorem zt_next {t : Nat} {fr : Int32} {c r C R : zz_S} (h : zL 7 9 c r C R) (hf : zF C) (ht : t < 6) (hq : zz_qg c 0 = some t) (h4 : ¬ zz_sg c 4 = 0) (h9 : zz_ag c 9 t = fr) (hx : zz_sg c 19 &&& 65535 = zz_sg r 5 &&& 65535) : ∃ C1 R1, PR_endAtNext_f C = some ((), C1) ∧ MO_instruction_165 fr 1 R = MO_instruction_212 fr R1 ∧ ((zF C1 ∧ zL 8 8 (zz_sp c 4 0) r C1 R1) ∨ (¬ zF C1 ∧ zL 8 9 (zz_sp c 4 0) r C1 R1)) := by
  have h0 := h
  obtain ⟨m, d, w, e, v, rfl, rfl, hm, hk, hd, he, hD, hs⟩ := h
  have hfm := (zF_iff hm).mp hf
  obtain ⟨rfl, hw⟩ := hs hfm
  unfold PR_endAtNext_f WS_isOver_f MO_instruction_165
  simp only [zL_R0t h0 hf, if_true]
  by_cases o : e ≤ 8
  · have h1 : zL 7 8 c r (zC c m e w) (zR r m e v) := ⟨m, e, w, e, v, rfl, rfl, hm, hk, o, by omega, by decide, hs⟩
    rw [if_pos (show zz_sg (zC c m e w) 13 ≤ 8 from nI_le o (by decide)), if_pos (show zz_sg (zR r m e v) 4 ≤ 8 from nI_le o (by decide)), zz_bd_s, if_pos rfl]
    unfold PR_endAtNext_19 MO_instruction_189
    rw [zC_sg4, if_neg h4]
    simp only [zL_R0t h0 hf, if_true]
    rw [if_neg (by decide)]
    obtain ⟨a, C1, b, R1, e1, e2, q1, q2⟩ := zL_save h1 (by decide) ht hq h9 (fun _ => hx)
    rw [e1, e2, zz_bd_s, zz_bd_s]
    refine ⟨C1, R1, rfl, rfl, ?_⟩
    by_cases f1 : zF C1
    · exact Or.inl ⟨f1, q1⟩
    · exact Or.inr ⟨f1, zL_up q1 (by decide) (by decide) (by decide)⟩
  · rw [if_neg (show ¬ zz_sg (zC c m e w) 13 ≤ 8 from nI_ge (a := 8) (b := e) (by omega) (by omega)), if_neg (show ¬ zz_sg (zR r m e v) 4 ≤ 8 from nI_ge (a := 8) (b := e) (by omega) (by omega)), zz_bd_s, if_neg (by decide)]
    obtain ⟨a, C1, b, R1, e1, e2, q1, q2⟩ := zL_fail h0 (e := 6) (by decide) (by decide)
    have e1' : ME_fail_f (6 : Int32) (zC c m e w) = some (a, C1) := e1
    have e2' : MO_wrong_f (6 : Int32) (zR r m e v) = some (b, R1) := e2
    rw [e1', e2', zz_bd_s, zz_bd_s]
    unfold PR_endAtNext_19 MO_instruction_189
    simp only [zL_R0f q1 q2, if_false]
    rw [zL_c4 q1, if_neg h4]
    obtain ⟨C2, y1, y2, y3⟩ := zL_saveJ q1 (by decide) ht hq q2
    rw [y1, zz_bd_s]
    exact ⟨C2, R1, rfl, rfl, Or.inr ⟨y3, zL_up y2 (by decide) (by decide) (by decide)⟩⟩
/-- the words and the depth are kept on both sides -/
def zSv (t : Nat) (c r c2 r2 : zz_S) : Prop := zOc t c c2 ∧ zOr t r r2 ∧ (∀ j, zz_sg c2 j = zz_sg c j) ∧ (∀ j, zz_qg c2 j = zz_qg c j) ∧ (∀ j, zz_sg r2 j = zz_sg r j) ∧ (∀ a i, zz_lg r2 a i = zz_lg r a i) ∧ (∀ a, a = 7 ∨ a = 8 ∨ 11 ≤ a ∧ a ≤ 14 → zz_ag c2 a t = zz_ag c a t) ∧ zz_ag c2 9 t = zz_sg c 3 ∧ (∀ a i, a ≠ 8 → a ≠ 9 → zz_ag r2 a i = zz_ag r a i) ∧ ∃ d, d ≤ 8 ∧ zz_ag c2 10 t = nI d ∧ zz_ag r2 8 t = nI d ∧ ∀ i, i < d → zz_ag c2 (20 + t) i = zz_ag r2 9 (8 * t + i) ∧ zWd (zz_ag c2 (20 + t) i)
theorem zt_set {n t : Nat} {fr : Int32} {c r C R : zz_S} (h : zL n 8 c r C R) (hf : zF C) (ht : t < 6) (hq : zz_qg c 0 = some t) (h3 : zz_sg r 3 = nI t) (h5 : ¬ zz_ag r 5 t = 2) : ∃ c2 r2 m d w e v, z106 C = zz_bd (z_set (zC c2 m d w)) (fun _ s => some ((), s)) ∧ MO_instruction_212 fr R = MO_instruction_306 2 (nI 8) (zR r2 m e v) ∧ zm_ok m ∧ zSv t c r c2 r2 := by
  have hR1 := zL_R1t h hf
  obtain ⟨m, d, w, e, v, rfl, rfl, hm, hk, hd, he, hD, hs⟩ := h
  obtain ⟨rfl, hw⟩ := hs ((zF_iff hm).mp hf)
  obtain ⟨c1, a1, a2, a3⟩ := WS_save_e (t := t) (m := m) (w := w) hd e (9 - e) 0 (zz_ap c 10 t (nI e)) (by omega)
  obtain ⟨r1, b1, b2, b3, b4⟩ := MO_save_e (t := t) (m := m) (e := e) (v := v) ht 8 1 0 (zz_ap r 8 t (nI e)) h3 (by decide)
  refine ⟨zz_ap c1 9 t (zz_sg c 3), r1, m, e, w, e, v, ?_, ?_, hm, ?_⟩
  · unfold z106 ME_hasFailed_f
    rw [if_pos (show zz_sg (zC c m e w) 1 = 0 from hf), zz_bd_s, if_pos rfl]
    unfold PR_settle_f WS_saveTo_f
    rw [show 9 - e + e + 1 = 10 from by omega] at a1
    rw [zC_qg, hq, zz_oc_s, zz_lt6 ht, zz_gd_t, zC_sg13, zC_ap10, zz_nm_e, show (0 : Int32) = nI 0 from by decide, a1, zz_bd_s, zC_qg, a2.2.2.1, show zz_qg (zz_ap c 10 t (nI e)) 0 = zz_qg c 0 from rfl, hq, zz_oc_s, zz_lt6 ht, zz_gd_t, zC_sg3, a2.2.1, show zz_sg (zz_ap c 10 t (nI e)) 3 = zz_sg c 3 from rfl, zC_ap9, zz_nm_e]
    rfl
  · unfold MO_instruction_212
    simp only [hR1, if_true]
    rw [zz_nm_e, zR_sg3, h3, zi_in (by decide) ht, zz_gd_t, nI_clamp (by omega), zR_ag5, if_neg h5, zz_nm_e, zR_sg4, zi_in (by decide) ht, zz_gd_t, nI_clamp (by omega), zR_ap8, zz_nm_e, show (0 : Int32) = nI 0 from by decide, b1]
  · obtain ⟨a21, a22, a23, a24⟩ := a2
    obtain ⟨b21, b22, b23, b24⟩ := b2
    refine ⟨fun u hu hne => ?_, fun u hu hne => ?_, fun j => a22 j, fun j => a23 j, fun j => b22 j, fun a i => b24 a i, fun a ha => ?_, ?_, fun a i h8 h9 => ?_, e, hd, ?_, ?_, fun i hi => ?_⟩
    · refine ⟨⟨?_, ?_, ?_, ?_, ?_, ?_, ?_, ?_⟩, fun i hi => ?_⟩
      all_goals rw [zz_ag_ap, if_neg (fun z => by omega), a21 _ _ (by omega), zz_ag_ap, if_neg (fun z => by omega)]
    · refine ⟨⟨?_, ?_, ?_, ?_, ?_, ?_, ?_, b24 _ _⟩, fun i hi => ?_⟩
      all_goals first | (rw [b21 _ _ (by decide), zz_ag_ap]; simp [hne]) | skip
      rw [b4 _ (by omega), zz_ag_ap, if_neg (fun z => by omega)]
    · rw [zz_ag_ap, if_neg (fun z => by omega), a21 _ _ (by omega), zz_ag_ap, if_neg (fun z => by omega)]
    · rw [zz_ag_ap, if_pos ⟨rfl, rfl⟩]
    · rw [b21 _ _ h9, zz_ag_ap, if_neg (fun z => h8 z.1)]
    · rw [zz_ag_ap, if_neg (fun z => by omega), a21 _ _ (by omega), zz_ag_ap, if_pos ⟨rfl, rfl⟩]
    · rw [b21 _ _ (by decide), zz_ag_ap, if_pos ⟨rfl, rfl⟩]
    · obtain ⟨w1, w2⟩ := hw i hi
      rw [zz_ag_ap, if_neg (fun z => by omega), a3, if_pos ⟨Nat.zero_le _, hi⟩, b3 i (by omega), if_pos (Nat.zero_le _)]
      exact ⟨w1, w2⟩
