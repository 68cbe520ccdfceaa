/-! each instruction to its end -/
theorem zG_0 {B t : Nat} {fr : Int32} {c r : zz_S} (hG : zG B t fr c r) : zz_sg r 0 = 0 := hG.2.2.2.2.2.2.2.2.2.1.2
def zPI (B : Nat) (_ : Unit) (C : zz_S) (_ : Unit) (R : zz_S) : Prop := zI0 (B + 8) C R
theorem zend_b1 {B t : Nat} {fr : Int32} {c r c1 r1 C R : zz_S} (hG : zG B t fr c r) (h : zL 7 9 c1 r1 C R) (hf : zF C) (hc : zXc c c1) (hr : zXr t r r1) (h4 : zz_sg c1 4 = 1) (hx : zz_sg c1 19 &&& 65535 = zz_sg r1 5 &&& 65535) (h5 : ¬ zz_ag r1 5 t = 2) (k : ∀ c2 r2 m d w e v, zm_ok m → zSv t (zz_sp c1 4 0) r1 c2 r2 → zr (zz_bd (z_set (zC c2 m d w)) fun _ s => some ((), s)) (MO_instruction_306 2 (nI 8) (zR r2 m e v)) (zPI B)) : zr (PR_step_106 C) (MO_instruction_165 fr 1 R) (zPI B) := by
  have hG0 := hG
  obtain ⟨⟨ht, hq, h9, h3, h7⟩, hT, hst, -, -, h6, -⟩ := hG
  rw [PR_step_106_e (by rw [zL_c6 h, hc.1, h6])]
  obtain ⟨C1, R1, e1, e2, e3⟩ := zt_next (fr := fr) h hf ht (by rw [hc.2.2.1, hq]) (by rw [h4]; decide) (by rw [hc.2.2.2, h9]) hx
  rw [e1, e2, zz_bd_s]
  rcases e3 with ⟨f1, L⟩ | ⟨f1, L⟩
  · obtain ⟨c2, r2, m, d, w, e, v, y1, y2, y3, y4⟩ := zt_set (fr := fr) L f1 ht (by show zz_qg c1 0 = _; rw [hc.2.2.1, hq]) (by rw [hr.1, h3]) h5
    rw [y1, y2]
    exact k c2 r2 m d w e v y3 y4
  · exact zr_mono (zt_fault hG0 ⟨_, _, L, ⟨hc.1, hc.2.1, hc.2.2.1, hc.2.2.2⟩, hr⟩ f1) (fun _ _ _ _ q => zI0_up q (by omega))
theorem zend_b0 {B t : Nat} {fr : Int32} {c r c1 r1 C R : zz_S} (hG : zG B t fr c r) (h : zL 7 8 c1 r1 C R) (hf : zF C) (hc : zXc c c1) (hr : zXr t r r1) (h4 : zz_sg c1 4 = 0) (h5 : ¬ zz_ag r1 5 t = 2) (k : ∀ c2 r2 m d w e v, zm_ok m → zSv t c1 r1 c2 r2 → zr (zz_bd (z_set (zC c2 m d w)) fun _ s => some ((), s)) (MO_instruction_306 2 (nI 8) (zR r2 m e v)) (zPI B)) : zr (PR_step_106 C) (MO_instruction_164 fr R) (zPI B) := by
  obtain ⟨⟨ht, hq, h9, h3, h7⟩, hT, hst, -, -, h6, -⟩ := hG
  rw [PR_step_106_e (by rw [zL_c6 h, hc.1, h6])]
  have e1 : PR_endAtNext_f C = some ((), C) := by
    unfold PR_endAtNext_f WS_isOver_f PR_endAtNext_19
    have o : zz_sg C 13 ≤ 8 := by
      obtain ⟨m, d, w, e, v, rfl, rfl, hm, hk, hd, -⟩ := h
      exact nI_le hd (by decide)
    rw [if_pos o, zz_bd_s, if_pos rfl, if_pos (by rw [zL_c4 h, h4])]
  have e2 : MO_instruction_164 fr R = MO_instruction_212 fr R := by
    unfold MO_instruction_164 MO_instruction_165 MO_instruction_189
    have o : zz_sg R 4 ≤ 8 := by
      obtain ⟨m, d, w, e, v, rfl, rfl, hm, hk, hd, he, hD, hs⟩ := h
      obtain ⟨rfl, -⟩ := hs ((zF_iff hm).mp hf)
      exact nI_le hd (by decide)
    simp only [zL_R0t h hf, if_true, o]
  rw [e1, e2, zz_bd_s]
  obtain ⟨c2, r2, m, d, w, e, v, y1, y2, y3, y4⟩ := zt_set (fr := fr) h hf ht (by rw [hc.2.2.1, hq]) (by rw [hr.1, h3]) h5
  rw [y1, y2]
  exact k c2 r2 m d w e v y3 y4
theorem zwk_nil {R : zz_S} (h : zz_sg R 9 = 0) : zwk [] R := ⟨h, by decide, fun i hi => absurd hi (Nat.not_lt_zero _)⟩
theorem zfR_sg (j : Nat) : ∀ (ts : List Nat) (R : zz_S), zz_sg (zfR ts R) j = zz_sg R j
  | [], _ => rfl
  | t :: ts, R => zfR_sg j ts (zrR t R)
theorem MO_306_e {n t : Nat} {R : zz_S} (ht : t < 6) (h3 : zz_sg R 3 = nI t) : MO_instruction_306 (n + 1) (nI 8) R = MO_instruction_363 (if zz_ag R 5 t = 3 then zrB t 3 R else R) := by
  show MO_instruction_306b (MO_instruction_306 n) (nI 8) R = _
  unfold MO_instruction_306b
  rw [if_pos (by decide), zz_nm_e, h3, zi_in (by decide) ht, zz_gd_t, nI_clamp (by omega)]
  by_cases h : zz_ag R 5 t = 3
  · rw [if_pos h, if_pos h, MO_become_p ht, zz_bd_s]
  · rw [if_neg h, if_neg h]
theorem MO_363_0 {ts : List Nat} {R : zz_S} (hw : zwk ts R) (h10 : zz_sg R 10 = 0) (h11 : zz_sg R 11 = -1) : MO_instruction_363 R = some ((), zz_sp (zfR ts R) 9 0) := by
  unfold MO_instruction_363 MO_instruction_378
  have e : zz_sg (zz_sp (zfR ts R) 9 0) 11 = -1 := (zfR_sg 11 ts R).trans h11
  rw [if_pos h10, MO_wakeAll_p hw, zz_bd_s, e, if_pos (by decide)]
theorem MO_363_y {t : Nat} {R : zz_S} (ht : t < 6) (h3 : zz_sg R 3 = nI t) (h9 : zz_sg R 9 = 0) (h10 : ¬ zz_sg R 10 = 0) (h11 : zz_sg R 11 = -1) : MO_instruction_363 R = some ((), zz_sp (zrR t R) 9 0) := by
  unfold MO_instruction_363 MO_instruction_378
  have e : zz_sg (zz_sp (zfR [] (zrR t R)) 9 0) 11 = -1 := h11
  rw [if_neg h10, h3, MO_ready_p ht, zz_bd_s, MO_wakeAll_p (zwk_nil (R := zrR t R) h9), zz_bd_s, e, if_pos (by decide)]
  rfl
theorem MO_363_b {j : Nat} {f p : Int32} {R : zz_S} (hj : j < 6) (h9 : zz_sg R 9 = 0) (h10 : zz_sg R 10 = 0) (h11 : zz_sg R 11 = nI j) (h12 : zz_sg R 12 = f) (h13 : zz_sg R 13 = p) : MO_instruction_363 R = some ((), zrN j f p (zz_sp R 9 0)) := by
  unfold MO_instruction_363 MO_instruction_378
  rw [if_pos h10, MO_wakeAll_p (zwk_nil h9), zz_bd_s]
  show (if zz_sg (zz_sp R 9 0) 11 < 0 then some ((), zz_sp R 9 0) else zz_bd (MO_begin_f (zz_sg (zz_sp R 9 0) 11) (zz_sg (zz_sp R 9 0) 12) (zz_sg (zz_sp R 9 0) 13) (zz_sp R 9 0)) fun _ s_2 => some ((), s_2)) = _
  rw [show zz_sg (zz_sp R 9 0) 11 = zz_sg R 11 from rfl, show zz_sg (zz_sp R 9 0) 12 = zz_sg R 12 from rfl, show zz_sg (zz_sp R 9 0) 13 = zz_sg R 13 from rfl, h11, h12, h13, if_neg (nI_pos (by omega)), MO_begin_p hj, zz_bd_s]
theorem zI_of {B : Nat} {c r : zz_S} {m : zM} {d e : Nat} {w v : Nat → Int32} (hm : zm_ok m) (h : zTx B 6 c r) (h0 : zz_sg r 0 = 0) : zI0 B (zC c m d w) (zz_sp (zR r m e v) 9 0) := ⟨⟨c, zz_sp r 9 0, m, d, w, e, v, rfl, zR_sp9 _ _ _ _ _, hm, h⟩, h0⟩
/-- nothing but the words, the depth and the frame changes -/
theorem zend_k0 {B t : Nat} {fr x : Int32} {c r c1 r1 c2 r2 : zz_S} {m : zM} {d e : Nat} {w v : Nat → Int32} (hG : zG B t fr c r) (hc : zXc c c1) (hr : zXr t r r1) (hx : zz_sg c1 3 = x) (hx7 : zz_ag r1 7 t = x) (hw : zWd x) (h5 : zz_ag r1 5 t = 1) (h9 : zz_sg r1 9 = 0) (h10 : zz_sg r1 10 = 0) (h11 : zz_sg r1 11 = -1) (hm : zm_ok m) (hS : zSv t c1 r1 c2 r2) (hz : z_set (zC c2 m d w) = some ((), zC c2 m d w)) : zr (zz_bd (z_set (zC c2 m d w)) fun _ s => some ((), s)) (MO_instruction_306 2 (nI 8) (zR r2 m e v)) (zPI B) := by
  have h00 := zG_0 hG
  obtain ⟨k1, k2, k3, k4, k5, k6, k7⟩ := zt_keep hG hc hr hx hx7 hw hS
  obtain ⟨⟨ht, hq, h9', h3, h7⟩, hT, hst, -⟩ := hG
  obtain ⟨s1, s2, s3, s4, s5, s6, s7, s8, s9, s10⟩ := hS
  rw [hz, zz_bd_s, MO_306_e ht (by rw [zR_sg3, s5, hr.1, h3]), zR_ag5, if_neg (by rw [s9 5 t (by decide) (by decide), h5]; decide), MO_363_0 (ts := []) (zwk_nil (by rw [zR_sg9, s5, h9])) (by rw [zR_sg10, s5, h10]) (by rw [zR_sg11, s5, h11])]
  exact zr_ret (zI0_up (zI_of hm (k7 h5) ((s5 0).trans (hr.2.2.2.trans h00))) (by omega))
theorem zend_S1 {B t : Nat} {fr b : Int32} {c r C R : zz_S} (hG : zG B t fr c r) (h3 : zz_sg c 3 = fr) (hw : zWd fr) (hz : ∀ c2 m d w, zz_sg c2 17 = zz_sg c 17 → z_set (zC c2 m d w) = some ((), zC c2 m d w)) (hf : zF C) (h : zS1 c r b C R) : b = 1 ∧ zr (PR_step_106 C) (MO_instruction_165 fr 1 R) (zPI B) := by
  obtain ⟨hb, v, u, hL, hx⟩ := h
  have hG0 := hG
  have h5 := (zG_k hG).2.1
  obtain ⟨⟨ht, hq, h9, hr3, h7⟩, hT, hst, c4, c5, c6, c7, r9, r10, r11, hB⟩ := hG
  refine ⟨hb, zend_b1 hG0 hL hf ⟨rfl, rfl, rfl, fun _ _ => rfl⟩ ⟨rfl, fun _ _ _ _ => rfl, fun _ _ => rfl, rfl⟩ c4 hx (by show ¬ zz_ag r 5 t = 2; rw [h5]; decide) (fun c2 r2 m d w e v' hm hS => ?_)⟩
  exact zend_k0 (x := fr) hG0 (c1 := zz_sp (zz_sp c 19 v) 4 0) (r1 := zz_sp r 5 u) ⟨rfl, rfl, rfl, fun _ _ => rfl⟩ ⟨rfl, fun _ _ _ _ => rfl, fun _ _ => rfl, rfl⟩ h3 h7 hw h5 r9 r10 r11.1 hm hS (hz _ _ _ _ (by rw [hS.2.2.1]; rfl))
theorem zXr_7 {t : Nat} {x : Int32} {r : zz_S} : zXr t r (zz_ap r 7 t x) := ⟨rfl, fun a i h17 hx => by rw [zz_ag_ap, if_neg (fun z => by omega)], fun _ _ => rfl, rfl⟩
theorem zXr_5 {t : Nat} {x : Int32} {r : zz_S} : zXr t r (zz_ap r 5 t x) := ⟨rfl, fun a i h17 hx => by rw [zz_ag_ap, if_neg (fun z => by omega)], fun _ _ => rfl, rfl⟩
theorem zend_S2 {B t : Nat} {fr b : Int32} {c r C R : zz_S} (hG : zG B t fr c r) (hz : ∀ c2 m d w, zz_sg c2 17 = zz_sg c 17 → z_set (zC c2 m d w) = some ((), zC c2 m d w)) (hf : zF C) (h : zS2 t c r b C R) : b = 0 ∧ zr (PR_step_106 C) (MO_instruction_164 fr R) (zPI B) := by
  obtain ⟨hb, x, hw, hL⟩ := h
  have hG0 := hG
  have h5 := (zG_k hG).2.1
  obtain ⟨⟨ht, hq, h9, hr3, h7⟩, hT, hst, c4, c5, c6, c7, r9, r10, r11, hB⟩ := hG
  have e5 : zz_ag (zz_ap r 7 t x) 5 t = 1 := h5
  refine ⟨hb, zend_b0 hG0 hL hf ⟨rfl, rfl, rfl, fun _ _ => rfl⟩ zXr_7 rfl (by rw [e5]; decide) (fun c2 r2 m d w e v' hm hS => ?_)⟩
  exact zend_k0 (x := x) hG0 (c1 := zz_sp (zz_sp c 4 0) 3 x) ⟨rfl, rfl, rfl, fun _ _ => rfl⟩ zXr_7 rfl (by rw [zz_ag_ap, if_pos ⟨rfl, rfl⟩]) hw e5 r9 r10 r11.1 hm hS (hz _ _ _ _ (by rw [hS.2.2.1]; rfl))
theorem zend_S27 {B t : Nat} {fr b : Int32} {c r C R : zz_S} (hG : zG B t fr c r) (h3 : zz_sg c 3 = fr) (hwf : zWd fr) (h17 : zz_sg c 17 = 27) (hf : zF C) (h : zS27 t c r b C R) : b = 0 ∧ zr (PR_step_106 C) (MO_instruction_164 fr R) (zPI B) := by
  have h00 := zG_0 hG
  obtain ⟨hb, h⟩ := h
  have hG0 := hG
  have h5 := (zG_k hG).2.1
  obtain ⟨⟨ht, hq, h9, hr3, h7⟩, hT, hst, c4, c5, c6, c7, r9, r10, r11, hB⟩ := hG
  refine ⟨hb, ?_⟩
  rcases h with ⟨x, hw, hL⟩ | hL
  · have e5 : zz_ag (zz_ap r 7 t x) 5 t = 1 := h5
    refine zend_b0 hG0 hL hf ⟨rfl, rfl, rfl, fun _ _ => rfl⟩ zXr_7 rfl (by rw [e5]; decide) (fun c2 r2 m d w e v' hm hS => ?_)
    refine zend_k0 (x := x) hG0 (c1 := zz_sp (zz_sp (zz_sp c 4 0) 5 0) 3 x) ⟨rfl, rfl, rfl, fun _ _ => rfl⟩ zXr_7 rfl (by rw [zz_ag_ap, if_pos ⟨rfl, rfl⟩]) hw e5 r9 r10 r11.1 hm hS ?_
    have q17 : zz_sg c2 17 = 27 := by rw [hS.2.2.1]; exact h17
    have q5 : zz_sg c2 5 = 0 := by rw [hS.2.2.1]; rfl
    unfold z_set
    rw [zz_nm_e, zC_sg17, q17, if_pos rfl, zC_sg5, q5, if_pos rfl]
  · have e5 : zz_ag (zz_ap r 5 t 0) 5 t = 0 := by rw [zz_ag_ap, if_pos ⟨rfl, rfl⟩]
    refine zend_b0 hG0 hL hf ⟨rfl, rfl, rfl, fun _ _ => rfl⟩ zXr_5 rfl (by rw [e5]; decide) (fun c2 r2 m d w e v' hm hS => ?_)
    obtain ⟨k1, k2, k3, k4, k5, k6, k7⟩ := zt_keep (x := fr) hG0 (c1 := zz_sp (zz_sp c 4 0) 5 1) ⟨rfl, rfl, rfl, fun _ _ => rfl⟩ zXr_5 h3 h7 hwf hS
    obtain ⟨s1, s2, s3, s4, s5, s6, s7, s8, s9, s10⟩ := hS
    have q17 : zz_sg c2 17 = 27 := by rw [s3]; exact h17
    have q5 : zz_sg c2 5 = 1 := by rw [s3]; rfl
    have qq : zz_qg c2 0 = some t := by rw [s4]; exact hq
    have q25 : zz_ag r2 5 t = 0 := by rw [s9 5 t (by decide) (by decide), e5]
    unfold z_set
    rw [zz_nm_e, zC_sg17, q17, if_pos rfl, zC_sg5, q5, if_neg (by decide), zC_qg, qq, zz_oc_s, zz_lt6 ht, zz_gd_t, TA_clear_p, zcK_C, zz_bd_s, zz_bd_s, MO_306_e ht (by rw [zR_sg3, s5]; exact hr3), zR_ag5, if_neg (by rw [q25]; decide), MO_363_0 (ts := []) (zwk_nil (by rw [zR_sg9, s5]; exact r9)) (by rw [zR_sg10, s5]; exact r10) (by rw [zR_sg11, s5]; exact r11.1)]
    exact zr_ret (zI0_up (zI_of hm (zT_clear k1 (fun _ _ _ => ⟨⟨rfl, rfl, rfl, rfl, rfl, rfl, rfl, rfl⟩, fun _ _ => rfl⟩) rfl q25) ((s5 0).trans h00)) (by omega))
theorem zend_S31 {B t : Nat} {fr b : Int32} {c r C R : zz_S} (hG : zG B t fr c r) (h3 : zz_sg c 3 = fr) (hwf : zWd fr) (hx : zz_sg c 19 &&& 65535 = zz_sg r 5 &&& 65535) (h17 : zz_sg c 17 = 31) (hf : zF C) (h : zS31 c r b C R) : b = 1 ∧ zr (PR_step_106 C) (MO_instruction_165 fr 1 R) (zPI B) := by
  have h00 := zG_0 hG
  obtain ⟨hb, j, f, p, hj, hwj, hj7, hL⟩ := h
  have hG0 := hG
  have h5 := (zG_k hG).2.1
  obtain ⟨⟨ht, hq, h9, hr3, h7⟩, hT, hst, c4, c5, c6, c7, r9, r10, r11, hB⟩ := hG
  refine ⟨hb, zend_b1 hG0 hL hf ⟨rfl, rfl, rfl, fun _ _ => rfl⟩ zXr_f c4 hx (by show ¬ zz_ag r 5 t = 2; rw [h5]; decide) (fun c2 r2 m d w e v' hm hS => ?_)⟩
  obtain ⟨k1, k2, k3, k4, k5, k6, k7⟩ := zt_keep (x := fr) hG0 (c1 := zz_sp (zz_sp (zz_qp (zz_sp c 12 (p &&& 7)) 1 (some j)) 11 f) 4 0) ⟨rfl, rfl, rfl, fun _ _ => rfl⟩ zXr_f h3 h7 hwf hS
  obtain ⟨s1, s2, s3, s4, s5, s6, s7, s8, s9, s10⟩ := hS
  have q17 : zz_sg c2 17 = 31 := by rw [s3]; exact h17
  have q11 : zz_sg c2 11 = f := by rw [s3]; rfl
  have q12 : zz_sg c2 12 = p &&& 7 := by rw [s3]; rfl
  have qq : zz_qg c2 1 = some j := by rw [s4]; rfl
  have q25 : zz_ag r2 5 t = 1 := by rw [s9 5 t (by decide) (by decide)]; exact h5
  unfold z_set
  rw [zz_nm_e, zC_sg17, q17]
  simp (decide := true) only [↓reduceIte]
  rw [zC_qg, qq, zz_oc_s, zz_lt6 hj, zz_gd_t, zz_oc_s, zz_lt6 hj, zz_gd_t, RO_begin_p, zC_sg11, q11, zC_sg12, q12, zcB_C, zz_bd_s, zz_bd_s, MO_306_e ht (by rw [zR_sg3, s5]; exact hr3), zR_ag5, if_neg (by rw [q25]; decide), MO_363_b (f := f) (p := p) hj (by rw [zR_sg9, s5]; exact r9) (by rw [zR_sg10, s5]; exact r10) (by rw [zR_sg11, s5]; rfl) (by rw [zR_sg12, s5]; rfl) (by rw [zR_sg13, s5]; rfl), zR_sp9, zrN_R]
  exact zr_ret ⟨⟨_, _, _, _, _, _, _, rfl, rfl, hm, zTx_up (zT_begin (r := zz_sp r2 9 0) (zTx_off (t := j) (t' := j) (k7 h5)) (by omega) hwj) (by omega)⟩, (s5 0).trans h00⟩
theorem zend_S40 {B t : Nat} {fr b : Int32} {c r C R : zz_S} (hG : zG B t fr c r) (h3 : zz_sg c 3 = fr) (hw : zWd fr) (hx : zz_sg c 19 &&& 65535 = zz_sg r 5 &&& 65535) (hz : ∀ c2 m d w, zz_sg c2 17 = zz_sg c 17 → z_set (zC c2 m d w) = some ((), zC c2 m d w)) (hf : zF C) (h : zS40 t c r b C R) : (b = 1 ∧ zr (PR_step_106 C) (MO_instruction_165 fr 1 R) (zPI B)) ∨ (b = 0 ∧ zr (PR_step_106 C) (MO_instruction_164 fr R) (zPI B)) := by
  have h00 := zG_0 hG
  obtain ⟨a, ha, h⟩ := h
  have hG0 := hG
  obtain ⟨hk, h5, -⟩ := zG_k hG
  obtain ⟨⟨ht, hq, h9, hr3, h7⟩, hT, hst, c4, c5, c6, c7, r9, r10, r11, hB⟩ := hG
  rcases h with ⟨hb, hL⟩ | ⟨hb, hL⟩
  · refine Or.inl ⟨hb, zend_b1 hG0 hL hf ⟨rfl, rfl, rfl, fun _ _ => rfl⟩ (zXr_refl t r) c4 hx (by rw [h5]; decide) (fun c2 r2 m d w e v' hm hS => ?_)⟩
    exact zend_k0 (x := fr) hG0 (c1 := zz_sp (zz_sp c 8 (nI a)) 4 0) ⟨rfl, rfl, rfl, fun _ _ => rfl⟩ (zXr_refl t r) h3 h7 hw h5 r9 r10 r11.1 hm hS (hz _ _ _ _ (by rw [hS.2.2.1]; rfl))
  · refine Or.inr ⟨hb, ?_⟩
    have R0 := zL_R0t hL hf
    have R1 := zL_R1t hL hf
    obtain ⟨m, d, w, e, v, rfl, rfl, hm, hkm, hd, he, hD, hs⟩ := hL
    obtain ⟨rfl, -⟩ := hs ((zF_iff hm).mp hf)
    unfold PR_step_106 MO_instruction_164 MO_instruction_165 MO_instruction_189 MO_instruction_212
    have o : zz_sg (zR (zz_ap (zz_ap r 5 t 2) 10 t (nI a)) m e v) 4 ≤ 8 := nI_le hd (by decide)
    simp only [R0, R1, if_true, o]
    rw [if_neg (show ¬ zz_sg (zC (zz_sp (zz_sp c 8 (nI a)) 6 1) m e w) 6 = 0 from (by decide : ¬ (1 : Int32) = 0)), zC_qg, show zz_qg (zz_sp (zz_sp c 8 (nI a)) 6 1) 0 = zz_qg c 0 from rfl, hq, zz_oc_s, zz_lt6 ht, zz_gd_t, RO_block_p, zcE_C, zC_ap11, zz_bd_s, zC_sg8, show zz_sg (zz_sp (zz_sp c 8 (nI a)) 6 1) 8 = nI a from rfl, zz_nm_e, zR_sg3, show zz_sg (zz_ap (zz_ap r 5 t 2) 10 t (nI a)) 3 = zz_sg r 3 from rfl, hr3, zi_in (by decide) ht, zz_gd_t, nI_clamp (by omega), zR_ag5, if_pos (show zz_ag (zz_ap (zz_ap r 5 t 2) 10 t (nI a)) 5 t = 2 from by rw [zz_ag_ap, if_neg (fun z => by omega), zz_ag_ap, if_pos ⟨rfl, rfl⟩]), MO_become_p ht, zz_bd_s, zrB_R]
    refine zr_ret ⟨⟨_, _, _, _, _, _, _, rfl, rfl, hm, zTx_up (zT_block (c := zz_sp (zz_sp c 8 (nI a)) 6 1) (zTx_eq (zTx_off (t := t) (t' := t) hT) (fun _ _ _ => ⟨⟨rfl, rfl, rfl, rfl, rfl, rfl, rfl, rfl⟩, fun _ _ => rfl⟩) (zOr_tr (zOr_ap 5 2 r (by decide)) (zOr_ap 10 _ _ (by decide))) hT.1 (Int.le_refl _) (Int.le_refl _)) (by omega) (zk_eq hk rfl rfl rfl (fun _ _ => rfl) rfl rfl rfl (fun _ _ => rfl)) ha ?_) (by omega)⟩, h00⟩
    rw [zz_ag_ap, if_pos ⟨rfl, rfl⟩]
theorem zOc_C {t : Nat} {c c2 : zz_S} {m : zM} {d : Nat} {w : Nat → Int32} (h : zOc t c c2) : zOc t c (zC c2 m d w) := fun u hu hne => ⟨(h u hu hne).1, fun i hi => (zC_ag20 _ _ _ _ _ _).trans ((h u hu hne).2 i hi)⟩
/-- the component's waking, with what the reference found before -/
theorem zw_one {B t s a : Nat} {x : Int32} {c r r1 C : zz_S} (hT : zTx B t c r) (hs : s = 2 ∨ s = 3) (hx : x &&& 4095 = nI a) (hC : zOc t c C) (h1 : ¬ zz_ag C 7 t = nI s) (h2 : ¬ zz_ag r 5 t = nI s) (h9 : zz_sg r 9 = 0) (h : zWk s x r r1) : ∃ ts y, RO_wakeFirst_f (nI s) (nI a) C = some (y, zfC ts C) ∧ zwk ts r1 ∧ ts.length ≤ 1 ∧ ∀ t, t ∈ ts → t < 6 ∧ ¬ zz_ag C 7 t = 0 := by
  obtain ⟨b, R0, e1, e2, e3, e4⟩ := h
  have hR := zRl_of hT hs hx hC (R := R0) (fun u hu _ => e2 u) (fun _ => h1) (fun _ => by rw [(e2 t).1]; exact h2)
  obtain ⟨q, b', f1, f2, hq⟩ := zw_first hR (W := 0) e3 (by decide)
  have eb : b' = b := by rw [e1] at f2; exact (Prod.mk.inj (Option.some.inj f2)).1.symm
  subst eb
  unfold RO_wakeFirst_f
  rw [f1, zz_bd_s]
  rcases hq with ⟨rfl, rfl⟩ | ⟨t', ht', rfl, rfl, hp⟩
  · rcases e4 with ⟨-, rfl⟩ | ⟨t'', ht'', eb, -⟩
    · exact ⟨[], -1, rfl, zwk_nil h9, by decide, fun t ht => absurd ht (List.not_mem_nil)⟩
    · exact absurd eb (zi_m1' (by omega))
  · rcases e4 with ⟨eb, -⟩ | ⟨t'', ht'', eb, rfl⟩
    · exact absurd eb (zi_m1 (by omega))
    · have et : t' = t'' := (nI_eq (by omega) (by omega)).mp eb
      subst et
      rw [zz_oc_s, zz_lt6 ht', zz_gd_t, RO_makeReady_p, zz_bd_s]
      refine ⟨[t'], _, rfl, ?_, Nat.le_refl 1, fun u hu => ?_⟩
      · exact zrWs_wk (ts := [t']) h9 (show 1 ≤ 6 by decide) (fun u hu => by rw [List.mem_singleton.mp hu]; exact ht')
      · rw [List.mem_singleton.mp hu]
        refine ⟨ht', ?_⟩
        rw [hp.1]
        rcases hs with q | q <;> subst q <;> decide
theorem zWk_or {s : Nat} {x : Int32} {r r1 : zz_S} (h : zWk s x r r1) : r1 = r ∨ ∃ t, r1 = zrW 0 t r := by
  obtain ⟨b, R0, -, -, -, ⟨-, h⟩ | ⟨t, -, -, h⟩⟩ := h
  · exact Or.inl h
  · exact Or.inr ⟨t, h⟩
theorem zWk_7 {s : Nat} {x : Int32} {r r1 : zz_S} (h : zWk s x r r1) : (∀ a i, a ≠ 17 → zz_ag r1 a i = zz_ag r a i) ∧ (∀ j, j ≠ 9 → zz_sg r1 j = zz_sg r j) := by
  rcases zWk_or h with rfl | ⟨t, rfl⟩
  · exact ⟨fun _ _ _ => rfl, fun _ _ => rfl⟩
  · refine ⟨fun a i ha => ?_, fun j hj => ?_⟩
    · unfold zrW
      rw [zz_ag_sp, zz_ag_ap, if_neg (fun z => ha z.1)]
    · unfold zrW
      rw [zz_sg_sp, if_neg hj]
      rfl
theorem zwk_eq {ts : List Nat} {r r' : zz_S} (h : zwk ts r) (h9 : zz_sg r' 9 = zz_sg r 9) (h17 : ∀ i, zz_ag r' 17 i = zz_ag r 17 i) : zwk ts r' := by
  obtain ⟨h1, h6, h2⟩ := h
  exact ⟨h9.trans h1, h6, fun i hi => ⟨(h17 i).trans (h2 i hi).1, (h2 i hi).2⟩⟩
/-- an end in which some are woken -/
theorem zend_kW {B t : Nat} {fr : Int32} {ts : List Nat} {c r c1 r1 c2 r2 : zz_S} {m : zM} {d e : Nat} {w v : Nat → Int32} (hG : zG B t fr c r) (hc : zXc c c1) (hr : zXr t r r1) (hx : zz_sg c1 3 = fr) (hx7 : zz_ag r1 7 t = fr) (hw : zWd fr) (h5 : zz_ag r1 5 t = 1) (hk : zwk ts r1) (h10 : zz_sg r1 10 = 0) (h11 : zz_sg r1 11 = -1) (hm : zm_ok m) (hS : zSv t c1 r1 c2 r2) (ht6 : ∀ t, t ∈ ts → t < 6 ∧ ¬ zz_ag (zC c2 m d w) 7 t = 0) : zr (some ((), zfC ts (zC c2 m d w))) (MO_instruction_306 2 (nI 8) (zR r2 m e v)) (zPI B) := by
  have h00 := zG_0 hG
  obtain ⟨k1, k2, k3, k4, k5, k6, k7⟩ := zt_keep hG hc hr hx hx7 hw hS
  obtain ⟨⟨ht, hq, h9', h3, h7⟩, hT, hst, -, -, -, -, -, -, -, hB⟩ := hG
  obtain ⟨s1, s2, s3, s4, s5, s6, s7, s8, s9, s10⟩ := hS
  have hl := hk.2.1
  rw [MO_306_e ht (by rw [zR_sg3, s5, hr.1, h3]), zR_ag5, if_neg (by rw [s9 5 t (by decide) (by decide), h5]; decide), MO_363_0 (ts := ts) (zwk_eq hk (by rw [zR_sg9, s5]) (fun i => by rw [zR_ag17, s9 17 i (by decide) (by decide)])) (by rw [zR_sg10, s5, h10]) (by rw [zR_sg11, s5, h11]), zfC_C, zfR_R]
  exact zr_ret (zI0_up (zI_of hm (zT_wakes ts B c2 r2 (k7 h5) ht6 (by omega)) ((zfR_sg 0 ts r2).trans ((s5 0).trans (hr.2.2.2.trans h00)))) (by omega))
theorem zend_S41 {B t : Nat} {fr b : Int32} {c r C R : zz_S} (hG : zG B t fr c r) (h3 : zz_sg c 3 = fr) (hwf : zWd fr) (hx : zz_sg c 19 &&& 65535 = zz_sg r 5 &&& 65535) (h17 : zz_sg c 17 = 41) (hf : zF C) (h : zS41 c r b C R) : b = 1 ∧ zr (PR_step_106 C) (MO_instruction_165 fr 1 R) (zPI B) := by
  obtain ⟨hb, a, x, r1, ha, ea, hW, hL⟩ := h
  have hG0 := hG
  have h5 := (zG_k hG).2.1
  obtain ⟨⟨ht, hq, h9, hr3, h7⟩, hT, hst, c4, c5, c6, c7, r9, r10, r11, hB⟩ := hG
  obtain ⟨w1, w2⟩ := zWk_7 hW
  have h5' : zz_ag r1 5 t = 1 := by rw [w1 5 t (by decide), h5]
  refine ⟨hb, zend_b1 hG0 hL hf ⟨rfl, rfl, rfl, fun _ _ => rfl⟩ (zXr_or (zWk_or hW)) c4 (by rw [w2 5 (by decide)]; exact hx) (by rw [h5']; decide) (fun c2 r2 m d w e v' hm hS => ?_)⟩
  have q17 : zz_sg c2 17 = 41 := by rw [hS.2.2.1]; exact h17
  have q8 : zz_sg c2 8 = nI a := by rw [hS.2.2.1]; rfl
  have q7 : zz_ag c2 7 t = 1 := by rw [hS.2.2.2.2.2.2.1 7 (Or.inl rfl)]; exact hst
  obtain ⟨ts, y, z1, z2, z3, z4⟩ := zw_one (C := zC c2 m d w) (zTx_off (t := t) (t' := t) hT) (Or.inl rfl) ea (zOc_C hS.1) (by rw [zC_ag7, q7]; decide) (by rw [h5]; decide) r9 hW
  have z1' : RO_wakeFirst_f (2 : Int32) (nI a) (zC c2 m d w) = some (y, zfC ts (zC c2 m d w)) := z1
  unfold z_set
  rw [zz_nm_e, zC_sg17, q17]
  simp (decide := true) only [↓reduceIte]
  rw [zC_sg8, q8, z1', zz_bd_s, zz_bd_s]
  exact zend_kW hG0 (c1 := zz_sp (zz_sp c 8 (nI a)) 4 0) ⟨rfl, rfl, rfl, fun _ _ => rfl⟩ (zXr_or (zWk_or hW)) h3 (by rw [w1 7 t (by decide), h7]) hwf h5' z2 (by rw [w2 10 (by decide), r10]) (by rw [w2 11 (by decide), r11.1]) hm hS z4
theorem zend_S43 {B t : Nat} {fr b : Int32} {c r C R : zz_S} (hG : zG B t fr c r) (h3 : zz_sg c 3 = fr) (hwf : zWd fr) (hx : zz_sg c 19 &&& 65535 = zz_sg r 5 &&& 65535) (h17 : zz_sg c 17 = 43) (hf : zF C) (h : zS43 c r b C R) : b = 1 ∧ zr (PR_step_106 C) (MO_instruction_165 fr 1 R) (zPI B) := by
  obtain ⟨hb, a, x, r1, ha, ea, hW, hL⟩ := h
  have hG0 := hG
  have h5 := (zG_k hG).2.1
  obtain ⟨⟨ht, hq, h9, hr3, h7⟩, hT, hst, c4, c5, c6, c7, r9, r10, r11, hB⟩ := hG
  obtain ⟨w1, w2⟩ := zWk_7 hW
  have h5' : zz_ag r1 5 t = 1 := by rw [w1 5 t (by decide), h5]
  refine ⟨hb, zend_b1 hG0 hL hf ⟨rfl, rfl, rfl, fun _ _ => rfl⟩ (zXr_or (zWk_or hW)) c4 (by rw [w2 5 (by decide)]; exact hx) (by rw [h5']; decide) (fun c2 r2 m d w e v' hm hS => ?_)⟩
  have q17 : zz_sg c2 17 = 43 := by rw [hS.2.2.1]; exact h17
  have q9 : zz_sg c2 9 = nI a := by rw [hS.2.2.1]; rfl
  have q7 : zz_ag c2 7 t = 1 := by rw [hS.2.2.2.2.2.2.1 7 (Or.inl rfl)]; exact hst
  obtain ⟨ts, y, z1, z2, z3, z4⟩ := zw_one (C := zC c2 m d w) (s := 3) (zTx_off (t := t) (t' := t) hT) (Or.inr rfl) ea (zOc_C hS.1) (by rw [zC_ag7, q7]; decide) (by rw [h5]; decide) r9 hW
  have z1' : RO_wakeFirst_f (3 : Int32) (nI a) (zC c2 m d w) = some (y, zfC ts (zC c2 m d w)) := z1
  unfold z_set
  rw [zz_nm_e, zC_sg17, q17]
  simp (decide := true) only [↓reduceIte]
  rw [zC_sg9, q9, z1', zz_bd_s, zz_bd_s]
  exact zend_kW hG0 (c1 := zz_sp (zz_sp c 9 (nI a)) 4 0) ⟨rfl, rfl, rfl, fun _ _ => rfl⟩ (zXr_or (zWk_or hW)) h3 (by rw [w1 7 t (by decide), h7]) hwf h5' z2 (by rw [w2 10 (by decide), r10]) (by rw [w2 11 (by decide), r11.1]) hm hS z4
theorem zrWs_e : ∀ (ts : List Nat) (W : Nat) (r : zz_S), (∀ a i, a ≠ 17 → zz_ag (zrWs W ts r) a i = zz_ag r a i) ∧ ∀ j, j ≠ 9 → zz_sg (zrWs W ts r) j = zz_sg r j
  | [], _, _ => ⟨fun _ _ _ => rfl, fun _ _ => rfl⟩
  | t :: ts, W, r => by
    obtain ⟨h1, h2⟩ := zrWs_e ts (W + 1) (zrW W t r)
    refine ⟨fun a i ha => (h1 a i ha).trans ?_, fun j hj => (h2 j hj).trans ?_⟩
    · unfold zrW
      rw [zz_ag_sp, zz_ag_ap, if_neg (fun z => ha z.1)]
    · unfold zrW
      rw [zz_sg_sp, if_neg hj]
      rfl
theorem zend_S44 {B t : Nat} {fr b : Int32} {c r C R : zz_S} (hG : zG B t fr c r) (h3 : zz_sg c 3 = fr) (hwf : zWd fr) (hx : zz_sg c 19 &&& 65535 = zz_sg r 5 &&& 65535) (h17 : zz_sg c 17 = 44) (hf : zF C) (h : zS44 c r b C R) : b = 1 ∧ zr (PR_step_106 C) (MO_instruction_165 fr 1 R) (zPI B) := by
  obtain ⟨hb, a, x, ts, R0, ha, ea, hl, hm6, hL, eR, hR0, hR9, hR2⟩ := h
  have hG0 := hG
  have h5 := (zG_k hG).2.1
  obtain ⟨⟨ht, hq, h9, hr3, h7⟩, hT, hst, c4, c5, c6, c7, r9, r10, r11, hB⟩ := hG
  obtain ⟨w1, w2⟩ := zrWs_e ts 0 r
  have h5' : zz_ag (zrWs 0 ts r) 5 t = 1 := by rw [w1 5 t (by decide), h5]
  refine ⟨hb, zend_b1 hG0 hL hf ⟨rfl, rfl, rfl, fun _ _ => rfl⟩ (zXr_Ws ts 0 r r (zXr_refl t r)) c4 (by rw [w2 5 (by decide)]; exact hx) (by rw [h5']; decide) (fun c2 r2 m d w e v' hm hS => ?_)⟩
  have q17 : zz_sg c2 17 = 44 := by rw [hS.2.2.1]; exact h17
  have q9 : zz_sg c2 9 = nI a := by rw [hS.2.2.1]; rfl
  have q7 : zz_ag c2 7 t = 1 := by rw [hS.2.2.2.2.2.2.1 7 (Or.inl rfl)]; exact hst
  have hRl := zRl_of (C := zC c2 m d w) (R := R0) (s := 3) (zTx_off (t := t) (t' := t) hT) (Or.inr rfl) ea (zOc_C hS.1) (fun u hu _ => hR0 u) (fun _ => by rw [zC_ag7, q7]; decide) (fun _ => by rw [(hR0 t).1, h5]; decide)
  obtain ⟨us, z1, z2, z3, z4⟩ := zw_all0 hRl hR9 hR2
  have eu : us = ts := by
    rw [eR] at z2
    have e := (Prod.mk.inj (Option.some.inj z2)).2
    have k1 := zrWs_wk (R := R0) hR9 z3 (fun t ht => (z4 t ht).1)
    rw [← e] at k1
    exact zwk_inj k1 (zrWs_wk hR9 hl hm6)
  subst eu
  unfold z_set
  rw [zz_nm_e, zC_sg17, q17]
  simp (decide := true) only [↓reduceIte]
  rw [zC_sg9, q9, z1, zz_bd_s, zz_bd_s]
  exact zend_kW hG0 (c1 := zz_sp (zz_sp c 9 (nI a)) 4 0) ⟨rfl, rfl, rfl, fun _ _ => rfl⟩ (zXr_Ws us 0 r r (zXr_refl t r)) h3 (by rw [w1 7 t (by decide), h7]) hwf h5' (zrWs_wk r9 hl hm6) (by rw [w2 10 (by decide), r10]) (by rw [w2 11 (by decide), r11.1]) hm hS z4
theorem zend_S45 {B t : Nat} {fr b : Int32} {c r C R : zz_S} (hG : zG B t fr c r) (h3 : zz_sg c 3 = fr) (hwf : zWd fr) (hx : zz_sg c 19 &&& 65535 = zz_sg r 5 &&& 65535) (h17 : zz_sg c 17 = 45) (hf : zF C) (h : zS45 c r b C R) : b = 1 ∧ zr (PR_step_106 C) (MO_instruction_165 fr 1 R) (zPI B) := by
  have h00 := zG_0 hG
  obtain ⟨hb, hL⟩ := h
  have hG0 := hG
  have h5 := (zG_k hG).2.1
  obtain ⟨⟨ht, hq, h9, hr3, h7⟩, hT, hst, c4, c5, c6, c7, r9, r10, r11, hB⟩ := hG
  refine ⟨hb, zend_b1 hG0 hL hf ⟨rfl, rfl, rfl, fun _ _ => rfl⟩ ⟨rfl, fun _ _ _ _ => rfl, fun _ _ => rfl, rfl⟩ c4 hx (by show ¬ zz_ag r 5 t = 2; rw [h5]; decide) (fun c2 r2 m d w e v' hm hS => ?_)⟩
  obtain ⟨k1, k2, k3, k4, k5, k6, k7⟩ := zt_keep (x := fr) hG0 (c1 := zz_sp c 4 0) (r1 := zz_sp r 10 1) ⟨rfl, rfl, rfl, fun _ _ => rfl⟩ ⟨rfl, fun _ _ _ _ => rfl, fun _ _ => rfl, rfl⟩ h3 h7 hwf hS
  obtain ⟨s1, s2, s3, s4, s5, s6, s7, s8, s9, s10⟩ := hS
  have q17 : zz_sg c2 17 = 45 := by rw [s3]; exact h17
  have qq : zz_qg c2 0 = some t := by rw [s4]; exact hq
  have q25 : zz_ag r2 5 t = 1 := by rw [s9 5 t (by decide) (by decide)]; exact h5
  unfold z_set
  rw [zz_nm_e, zC_sg17, q17]
  simp (decide := true) only [↓reduceIte]
  rw [zC_qg, qq, zz_oc_s, zz_lt6 ht, zz_gd_t, RO_makeReady_p, zcE_C, zz_bd_s, zz_bd_s, MO_306_e ht (by rw [zR_sg3, s5]; exact hr3), zR_ag5, if_neg (by rw [q25]; decide), MO_363_y ht (by rw [zR_sg3, s5]; exact hr3) (by rw [zR_sg9, s5]; exact r9) (by rw [zR_sg10, s5]; exact (by decide : ¬ (1 : Int32) = 0)) (by rw [zR_sg11, s5]; exact r11.1), zrR_R]
  exact zr_ret (zI0_up (zI_of hm (zT_ready k1 (by omega) k2) ((s5 0).trans h00)) (by omega))
theorem zend_S42 {B t : Nat} {fr b : Int32} {c r C R : zz_S} (hG : zG B t fr c r) (h3 : zz_sg c 3 = fr) (hwf : zWd fr) (hx : zz_sg c 19 &&& 65535 = zz_sg r 5 &&& 65535) (h17 : zz_sg c 17 = 42) (hf : zF C) (h : zS42 t c r b C R) : b = 1 ∧ zr (PR_step_106 C) (MO_instruction_165 fr 1 R) (zPI B) := by
  have h00 := zG_0 hG
  obtain ⟨hb, a, x, r1, y, k, ha, ea, hW, hwy, hk4, hL⟩ := h
  have hG0 := hG
  have h5 := (zG_k hG).2.1
  obtain ⟨⟨ht, hq, h9, hr3, h7⟩, hT, hst, c4, c5, c6, c7, r9, r10, r11, hB⟩ := hG
  obtain ⟨w1, w2⟩ := zWk_7 hW
  have h5' : zz_ag r1 5 t = 1 := by rw [w1 5 t (by decide), h5]
  refine ⟨hb, ?_⟩
  rcases hL with hL | hL
  · refine zend_b1 hG0 hL hf ⟨rfl, rfl, rfl, fun _ _ => rfl⟩ (zXr_or (zWk_or hW)) c4 (by rw [w2 5 (by decide)]; exact hx) (by rw [h5']; decide) (fun c2 r2 m d w e v' hm hS => ?_)
    have q17 : zz_sg c2 17 = 42 := by rw [hS.2.2.1]; exact h17
    have q8 : zz_sg c2 8 = nI a := by rw [hS.2.2.1]; rfl
    have qs7 : zz_sg c2 7 = 0 := by rw [hS.2.2.1]; rfl
    have q7 : zz_ag c2 7 t = 1 := by rw [hS.2.2.2.2.2.2.1 7 (Or.inl rfl)]; exact hst
    obtain ⟨ts, y, z1, z2, z3, z4⟩ := zw_one (C := zC c2 m d w) (zTx_off (t := t) (t' := t) hT) (Or.inl rfl) ea (zOc_C hS.1) (by rw [zC_ag7, q7]; decide) (by rw [h5]; decide) r9 hW
    have z1' : RO_wakeFirst_f (2 : Int32) (nI a) (zC c2 m d w) = some (y, zfC ts (zC c2 m d w)) := z1
    unfold z_set PR_settle_208
    rw [zz_nm_e, zC_sg17, q17]
    simp (decide := true) only [↓reduceIte]
    rw [zC_sg7, qs7, if_pos rfl, zC_sg8, q8, z1', zz_bd_s, zz_bd_s]
    exact zend_kW hG0 (c1 := zz_sp (zz_sp (zz_sp (zz_sp (zz_sp c 10 _) 9 (nI k)) 8 (nI a)) 7 0) 4 0) ⟨rfl, rfl, rfl, fun _ _ => rfl⟩ (zXr_or (zWk_or hW)) h3 (by rw [w1 7 t (by decide), h7]) hwf h5' z2 (by rw [w2 10 (by decide), r10]) (by rw [w2 11 (by decide), r11.1]) hm hS z4
  · have hXr := zXr_3 (a := 3) (b := nI k) (c := y) (zXr_or (t := t) (zWk_or hW))
    have e3 : zz_ag (zz_ap (zz_ap (zz_ap r1 5 t 3) 10 t (nI k)) 11 t y) 5 t = 3 := by
      rw [zz_ag_ap, if_neg (fun z => by omega), zz_ag_ap, if_neg (fun z => by omega), zz_ag_ap, if_pos ⟨rfl, rfl⟩]
    refine zend_b1 hG0 hL hf ⟨rfl, rfl, rfl, fun _ _ => rfl⟩ hXr c4 (by show _ = zz_sg r1 5 &&& 65535; rw [w2 5 (by decide)]; exact hx) (by rw [e3]; decide) (fun c2 r2 m d w e v' hm hS => ?_)
    obtain ⟨k1, k2, k3, k4, k5, k6, k7⟩ := zt_keep (x := fr) hG0 (c1 := zz_sp (zz_sp (zz_sp (zz_sp (zz_sp c 10 y) 9 (nI k)) 8 (nI a)) 7 1) 4 0) ⟨rfl, rfl, rfl, fun _ _ => rfl⟩ hXr h3 (by show zz_ag r1 7 t = fr; rw [w1 7 t (by decide), h7]) hwf hS
    obtain ⟨s1, s2, s3, s4, s5, s6, s7, s8, s9, s10⟩ := hS
    have q17 : zz_sg c2 17 = 42 := by rw [s3]; exact h17
    have q8 : zz_sg c2 8 = nI a := by rw [s3]; rfl
    have q9 : zz_sg c2 9 = nI k := by rw [s3]; rfl
    have q10 : zz_sg c2 10 = y := by rw [s3]; rfl
    have qs7 : zz_sg c2 7 = 1 := by rw [s3]; rfl
    have qq : zz_qg c2 0 = some t := by rw [s4]; exact hq
    have hA : zTx (B + 1) 6 (zz_ap (zz_ap (zcE t 3 c2) 11 t (nI k)) 12 t y) (zrB t 3 r2) := by
      refine zT_await k1 (by omega) k2 hk4 ?_ ?_ hwy
      · rw [s9 10 t (by decide) (by decide), zz_ag_ap, if_neg (fun z => by omega), zz_ag_ap, if_pos ⟨rfl, rfl⟩]
      · rw [s9 11 t (by decide) (by decide), zz_ag_ap, if_pos ⟨rfl, rfl⟩]
    have hO : zOc t c (zC (zz_ap (zz_ap (zcE t 3 c2) 11 t (nI k)) 12 t y) m d w) := zOc_C (zOc_tr (zOc_tr (zOc_tr (zOc_tr (fun _ _ _ => ⟨⟨rfl, rfl, rfl, rfl, rfl, rfl, rfl, rfl⟩, fun _ _ => rfl⟩) s1) (zOc_E t 3 c2)) (zOc_ap 11 _ _ (by decide))) (zOc_ap 12 _ _ (by decide)))
    obtain ⟨ts, y', z1, z2, z3, z4⟩ := zw_one (C := zC (zz_ap (zz_ap (zcE t 3 c2) 11 t (nI k)) 12 t y) m d w) (zTx_off (t := t) (t' := t) hT) (Or.inl rfl) ea hO (by rw [zC_ag7]; simp [zcE, zz_ag_ap]; decide) (by rw [h5]; decide) r9 hW
    have z1' : RO_wakeFirst_f (2 : Int32) (nI a) (zC (zz_ap (zz_ap (zcE t 3 c2) 11 t (nI k)) 12 t y) m d w) = some (y', zfC ts (zC (zz_ap (zz_ap (zcE t 3 c2) 11 t (nI k)) 12 t y) m d w)) := z1
    unfold z_set PR_settle_208
    rw [zz_nm_e, zC_sg17, q17]
    simp (decide := true) only [↓reduceIte]
    rw [zC_sg7, qs7, if_neg (by decide), zC_qg, qq, zz_oc_s, zz_lt6 ht, zz_gd_t, RO_await_p, zcE_C, zC_ap11, zC_ap12, zz_bd_s, zC_sg9, q9, zC_sg10, q10, zC_sg8, show zz_sg (zz_ap (zz_ap (zcE t 3 c2) 11 t (nI k)) 12 t y) 8 = zz_sg c2 8 from rfl, q8, z1', zz_bd_s, zz_bd_s]
    have hwk : zwk ts (zrB t 3 (zR r2 m e v')) := zwk_eq z2 (by show zz_sg r2 9 = _; rw [s5]; rfl) (fun i => by show zz_ag r2 17 i = _; rw [s9 17 i (by decide) (by decide)]; rfl)
    rw [MO_306_e ht (by rw [zR_sg3, s5]; exact (w2 3 (by decide)).trans hr3), zR_ag5, if_pos (by rw [s9 5 t (by decide) (by decide), e3]), MO_363_0 (ts := ts) hwk (by show zz_sg r2 10 = 0; rw [s5]; exact (w2 10 (by decide)).trans r10) (by show zz_sg r2 11 = -1; rw [s5]; exact (w2 11 (by decide)).trans r11.1), zrB_R, zfC_C, zfR_R]
    exact zr_ret (zI0_up (zI_of hm (zT_wakes ts (B + 1) _ _ hA z4 (by omega)) ((zfR_sg 0 ts _).trans ((s5 0).trans ((w2 0 (by decide)).trans h00)))) (by omega))
