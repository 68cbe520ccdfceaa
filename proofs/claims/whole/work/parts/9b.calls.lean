/-! calls and returns -/
theorem zz_lt6 {t : Nat} (h : t < 6) : Nat.blt t 6 = true := Nat.ble_eq_true_of_le h
theorem zL_rap {n D : Nat} {c r C R : zz_S} (h : zL n D c r C R) (x i : Nat) (v : Int32) (h3 : Nat.beq 3 x = false) (h2 : Nat.beq 2 x = false) (h14 : Nat.beq 14 x = false) (h15 : Nat.beq 15 x = false) (h1 : Nat.beq 1 x = false) (h4 : Nat.beq 4 x = false) (h16 : Nat.beq x 16 = false) : zL n D c (zz_ap r x i v) C (zz_ap R x i v) := by
  obtain ⟨m, d, w, e, u, rfl, rfl, q⟩ := h
  exact ⟨m, d, w, e, u, rfl, ((zpM_apG _ _ x i v h3 h2 h14 h15 h1 h4).trans (congrArg (fun z => zpM z m) (zkM_apG r e u x i v h16))), q⟩
theorem zL_save {n D t : Nat} {fr : Int32} {c r C R : zz_S} (h : zL n D c r C R) (hn : n < 16) (ht : t < 6) (hq : zz_qg c 0 = some t) (h9 : zz_ag c 9 t = fr) (hx : zF C → zz_sg c 19 &&& 65535 = zz_sg r 5 &&& 65535) : zr (PR_saveNext_f C) (MO_write_f (fr + 2) (zz_sg R 5) R) (fun _ C' _ R' => zL (n + 1) D (zz_sp c 4 0) r C' R' ∧ (zF C' → zF C)) := by
  unfold PR_saveNext_f
  rw [zL_q h, hq, zz_oc_s, zz_lt6 ht, zz_gd_t, zL_ca9 h, h9, zL_c19 h, zL_r5 h, zz_bo_0]
  obtain ⟨a, C1, b, R1, e1, e2, q1, q2⟩ := zL_write h hn (a := fr + 2) (b := fr + 2) (x := zz_sg c 19) (y := zz_sg r 5) (fun z => ⟨rfl, hx z⟩)
  rw [e1, e2]
  exact zr_ret ⟨zL_sp q1 4 0 rfl rfl rfl, q2⟩
/-- behind a fault the component's saving does nothing -/
theorem zL_saveJ {n D t : Nat} {c r C R : zz_S} (h : zL n D c r C R) (hn : n < 16) (ht : t < 6) (hq : zz_qg c 0 = some t) (hf : ¬ zF C) : ∃ C', PR_saveNext_f C = some ((), C') ∧ zL n D (zz_sp c 4 0) r C' R ∧ ¬ zF C' := by
  obtain ⟨m, d, w, e, v, rfl, rfl, hm, hk, q⟩ := h
  have hf' := hf
  rw [zF_iff hm] at hf'
  unfold PR_saveNext_f
  rw [show zz_qg (zC c m d w) 0 = zz_qg c 0 from rfl, hq, zz_oc_s, zz_lt6 ht, zz_gd_t, ME_write_e hm (by omega), za_write_f hf', zz_bd_s, zz_bo_0, zz_gd_t, zz_nm_e]
  exact ⟨_, rfl, ⟨m, d, w, e, v, zC_sp4 _ _ _ _ _, rfl, hm, hk, q⟩, hf⟩
def zU (t : Nat) (fr : Int32) (c r : zz_S) : Prop := t < 6 ∧ zz_qg c 0 = some t ∧ zz_ag c 9 t = fr ∧ zz_sg r 3 = nI t ∧ zz_ag r 7 t = fr
def zXc (c c' : zz_S) : Prop := zz_sg c' 6 = zz_sg c 6 ∧ zz_sg c' 2 = zz_sg c 2 ∧ zz_qg c' 0 = zz_qg c 0 ∧ ∀ a i, zz_ag c' a i = zz_ag c a i
def zXr (t : Nat) (r r' : zz_S) : Prop := zz_sg r' 3 = zz_sg r 3 ∧ (∀ a i, a ≠ 17 → (i ≠ t ∨ (a ≠ 5 ∧ a ≠ 7 ∧ a ≠ 10 ∧ a ≠ 11)) → zz_ag r' a i = zz_ag r a i) ∧ (∀ a i, zz_lg r' a i = zz_lg r a i) ∧ zz_sg r' 0 = zz_sg r 0
/-- where an instruction has failed -/
def zX (t : Nat) (c r C R : zz_S) : Prop := ∃ c' r', zL 8 9 c' r' C R ∧ zXc c c' ∧ zXr t r r'
def zP (t : Nat) (c r : zz_S) (S : Int32 → zz_S → zz_S → Prop) (_ : Unit) (C : zz_S) (b : Int32) (R : zz_S) : Prop := (zF C → S b C R) ∧ (¬ zF C → zX t c r C R)
def zS1 (c r : zz_S) (b : Int32) (C R : zz_S) : Prop := b = 1 ∧ ∃ v u, zL 7 9 (zz_sp c 19 v) (zz_sp r 5 u) C R ∧ v &&& 65535 = u &&& 65535
theorem zXr_refl (t : Nat) (r : zz_S) : zXr t r r := ⟨rfl, fun _ _ _ _ => rfl, fun _ _ => rfl, rfl⟩
theorem zQ1_P {t : Nat} {c r : zz_S} {u : Unit} {C : zz_S} {b : Int32} {R : zz_S} (h : zQ1 c r u C b R) : zP t c r (zS1 c r) u C b R := by
  obtain ⟨hb, v, x, h, e⟩ := h
  exact ⟨fun z => ⟨hb, v, x, h, e z⟩, fun z => ⟨_, _, zL_up h (by decide) (by decide) (by decide), ⟨rfl, rfl, rfl, fun _ _ => rfl⟩, ⟨rfl, fun _ _ _ _ => rfl, fun _ _ => rfl, rfl⟩⟩⟩
def zS2 (t : Nat) (c r : zz_S) (b : Int32) (C R : zz_S) : Prop := b = 0 ∧ ∃ x, zWd x ∧ zL 7 8 (zz_sp (zz_sp c 4 0) 3 x) (zz_ap r 7 t x) C R
theorem zo_goTo {n D t : Nat} {fr : Int32} {c r C R : zz_S} (hu : zU t fr c r) {C1 R1 : zz_S} (h : zL n D (zz_sp c 4 0) r C1 R1) (hn : n + 5 ≤ 7) (hD : D ≤ 8) {a b : Int32} (hb : zWd b) (hab : zF C1 → a = b) : zr (zz_oc (zz_qg C1 0) none fun t_9 => zz_gd (Nat.blt t_9 6) (zz_bd (PR_goTo_f a (zz_ag C1 9 t_9) C1) fun _ s_10 => (some ((), s_10)))) (zz_bd (zz_bd (MO_called_f b fr R1) fun r_5 s_4 => (if (zz_sg s_4 2) = 0 then (zz_nm (zz_sg s_4 3) fun v_6 => (zz_gd (zz_in v_6 6) (zz_nm (zz_ap s_4 7 v_6.toNatClampNeg r_5) fun s_7 => (some ((), s_7))))) else (some ((), s_4)))) fun _ s => some ((0 : Int32), s)) (zP t c r (zS2 t c r)) := by
  obtain ⟨ht, hq, h9, h3, h7⟩ := hu
  rw [zL_q h, show zz_qg (zz_sp c 4 0) 0 = zz_qg c 0 from rfl, hq, zz_oc_s, zz_lt6 ht, zz_gd_t, zL_ca9 h, show zz_ag (zz_sp c 4 0) 9 t = zz_ag c 9 t from rfl, h9, zz_bd_a]
  refine zr_bd (zL_goTo h (by omega) hb (fun z => ⟨hab z, rfl⟩)) (fun _ C2 y R2 q => ?_)
  obtain ⟨x, q1, q2⟩ := q
  by_cases hf : zF C2
  · obtain ⟨-, e, hy⟩ := q2 hf
    subst e
    simp only [zL_R0t q1 hf, if_true, zz_nm_e, zL_r3 q1, h3, zi_in (show 6 ≤ 2 ^ 31 by decide) ht, zz_gd_t, nI_clamp (show t < 2 ^ 31 by omega), zz_bd_s]
    exact zr_ret ⟨fun _ => ⟨rfl, x, hy, zL_up (zL_rap q1 7 t x rfl rfl rfl rfl rfl rfl rfl) (by omega) hD (by decide)⟩, fun z => absurd hf z⟩
  · simp only [zL_R0f q1 hf, if_false, zz_bd_s]
    exact zr_ret ⟨fun z => absurd z hf, fun _ => ⟨_, _, zL_up q1 (by omega) (by omega) (by decide), ⟨rfl, rfl, rfl, fun _ _ => rfl⟩, zXr_refl t r⟩⟩
theorem zS_nx {fr gl : Int32} {gn fi nx n : Nat} {c r : zz_S} (hs : zS fr gl gn fi nx n c r) : zz_sg c 19 &&& 65535 = zz_sg r 5 &&& 65535 := by
  obtain ⟨h3, h15, h7, h14, h8, h16, h18, h19, h5, -⟩ := hs
  rw [h19, h5, zi_16', zi_16', Nat.mod_mod]
theorem MO_call_e {t : Nat} {fr : Int32} {n D : Nat} {c r C R : zz_S} (h : zL n D c r C R) (hu : zU t fr c r) (b : Int32) : MO_call_f b R = zz_bd (MO_write_f (fr + 2) (zz_sg R 5) R) fun _ s_3 => (zz_bd (MO_called_f b fr s_3) fun r_5 s_4 => (if (zz_sg s_4 2) = 0 then (zz_nm (zz_sg s_4 3) fun v_6 => (zz_gd (zz_in v_6 6) (zz_nm (zz_ap s_4 7 v_6.toNatClampNeg r_5) fun s_7 => (some ((), s_7))))) else (some ((), s_4)))) := by
  obtain ⟨ht, hq, h9, h3, h7⟩ := hu
  unfold MO_call_f
  rw [zz_nm_e, zL_r3 h, h3, zi_in (by decide) ht, zz_gd_t, nI_clamp (by omega), zz_nm_e, zL_ra7 h, h7]
theorem zo_25 {t : Nat} {fr gl : Int32} {gn fi nx n : Nat} {c r C R : zz_S} (h : zL 0 8 c r C R) (hs : zS fr gl gn fi nx n c r) (hu : zU t fr c r) (h17 : zz_sg c 17 = 25) : zr (PR_transfer_f C) (MO_act_46 (nI fi) 25 fr (nI n) R) (zP t c r (zS2 t c r)) := by
  have hx := zS_nx hs
  obtain ⟨h3, h15, h7, h14, h8, h16, h18, h19, h5, hfr, hgl, hgn, hfi, hn⟩ := hs
  unfold PR_transfer_f MO_act_46
  simp (decide := true) only [zz_nm_e, zL_c17 h, h17, zL_c18 h, h18, ↓reduceIte]
  rw [MO_call_e h hu, zz_bd_a]
  refine zr_bd (zL_save h (by decide) hu.1 hu.2.1 hu.2.2.1 (fun _ => hx)) (fun _ C1 _ R1 q => ?_)
  obtain ⟨q1, q2⟩ := q
  unfold FR_procedure_f
  rw [zz_bd_s, zL_c14 q1, show zz_sg (zz_sp c 4 0) 14 = zz_sg c 14 from rfl, h14, zL_r8 h, h8, zi_15]
  have e32 : (32 : Int32) = nI 32 := by decide
  have e2 : (2 : Int32) = nI 2 := by decide
  refine zo_goTo (C := C) (R := R) hu q1 (by decide) (by decide) ?_ (fun _ => ?_)
  · refine ⟨32 * gn + 2 * (n % 16) + 1, by omega, ?_⟩
    rw [e32, zi_mul, e2, zi_mul, nI_add, nI_1]
  · rw [e32, e2, zi_mul, zi_mul, zi_mul, zi_mul, Nat.mul_comm gn, Nat.mul_comm (n % 16)]
theorem zo_26 {t : Nat} {fr gl : Int32} {gn fi nx n : Nat} {c r C R : zz_S} (h : zL 0 8 c r C R) (hs : zS fr gl gn fi nx n c r) (hu : zU t fr c r) (h17 : zz_sg c 17 = 26) : zr (PR_transfer_f C) (MO_act_46 (nI fi) 26 fr (nI n) R) (zP t c r (zS2 t c r)) := by
  have hx := zS_nx hs
  obtain ⟨h3, h15, h7, h14, h8, h16, h18, h19, h5, hfr, hgl, hgn, hfi, hn⟩ := hs
  unfold PR_transfer_f MO_act_46
  simp (decide := true) only [zz_nm_e, zL_c17 h, h17, zL_c18 h, h18, zL_c15 h, h15, zL_r7 h, h7, ↓reduceIte]
  refine zr_bd (zL_read h (fun _ => rfl)) (fun x C1 y R1 q => ?_)
  obtain ⟨q1, q2, rfl, hw⟩ := q
  rw [MO_call_e q1 hu, zz_bd_a]
  refine zr_bd (zL_save q1 (by decide) hu.1 hu.2.1 hu.2.2.1 (fun _ => hx)) (fun _ C2 _ R2 p => ?_)
  exact zo_goTo (C := C) (R := R) hu p.1 (by decide) (by decide) hw (fun _ => rfl)
theorem zo_28 {t : Nat} {fr gl : Int32} {gn fi nx n : Nat} {c r C R : zz_S} (h : zL 0 8 c r C R) (hs : zS fr gl gn fi nx n c r) (hu : zU t fr c r) (h17 : zz_sg c 17 = 28) : zr (PR_transfer_f C) (MO_act_46 (nI fi) 28 fr (nI n) R) (zP t c r (zS2 t c r)) := by
  have hx := zS_nx hs
  obtain ⟨h3, h15, h7, h14, h8, h16, h18, h19, h5, hfr, hgl, hgn, hfi, hn⟩ := hs
  unfold PR_transfer_f MO_act_46
  simp (decide := true) only [zz_nm_e, zL_c17 h, h17, zL_c18 h, h18, ↓reduceIte]
  refine zr_bd (zL_pop h) (fun x C1 y R1 q => ?_)
  obtain ⟨q1, hw, q2⟩ := q
  rw [MO_call_e q1 hu, zz_bd_a]
  refine zr_bd (zL_save q1 (by decide) hu.1 hu.2.1 hu.2.2.1 (fun _ => hx)) (fun _ C2 _ R2 p => ?_)
  exact zo_goTo (C := C) (R := R) hu p.1 (by decide) (by decide) hw (fun z => (q2 (p.2 z)).2)
def zS27 (t : Nat) (c r : zz_S) (b : Int32) (C R : zz_S) : Prop := b = 0 ∧ ((∃ x, zWd x ∧ zL 7 8 (zz_sp (zz_sp (zz_sp c 4 0) 5 0) 3 x) (zz_ap r 7 t x) C R) ∨ zL 7 8 (zz_sp (zz_sp c 4 0) 5 1) (zz_ap r 5 t 0) C R)
theorem MO_back_e {t : Nat} {n D : Nat} {c r C R : zz_S} (h : zL n D c r C R) (ht : t < 6) (h3 : zz_sg r 3 = nI t) (v : Int32) : (if (zz_sg R 2) = 0 then (zz_nm (zz_sg R 3) fun v_3 => (zz_gd (zz_in v_3 6) (zz_nm (zz_ap R 7 v_3.toNatClampNeg v) fun s_4 => (some ((), s_4))))) else (some ((), R))) = if (zz_sg R 2) = 0 then some ((), zz_ap R 7 t v) else some ((), R) := by
  rw [zz_nm_e, zL_r3 h, h3, zi_in (by decide) ht, zz_gd_t, nI_clamp (by omega), zz_nm_e]
theorem zo_27 {t : Nat} {fr gl : Int32} {gn fi nx n : Nat} {c r C R : zz_S} (h : zL 0 8 c r C R) (hs : zS fr gl gn fi nx n c r) (hu : zU t fr c r) (h17 : zz_sg c 17 = 27) : zr (PR_transfer_f C) (MO_act_46 (nI fi) 27 fr (nI n) R) (zP t c r (zS27 t c r)) := by
  have hx := zS_nx hs
  obtain ⟨h3, h15, h7, h14, h8, h16, h18, h19, h5, hfr, hgl, hgn, hfi, hn⟩ := hs
  obtain ⟨ht, hq, h9, hr3, hr7⟩ := hu
  unfold PR_transfer_f MO_act_46
  simp (decide := true) only [zz_nm_e, zL_c17 h, h17, zL_c18 h, h18, ↓reduceIte]
  unfold MO_giveBack_f
  rw [zz_bo_0, zz_gd_t, zz_nm_e, zL_r3 h, hr3, zi_in (by decide) ht, zz_gd_t, nI_clamp (by omega), zz_nm_e, zL_ra7 h, hr7, zz_bd_a]
  have h0 := zL_sp h 4 0 rfl rfl rfl
  refine zr_bd (zL_read h0 (fun _ => ?_)) (fun x C1 y R1 q => ?_)
  · rw [zL_c3 h0, show zz_sg (zz_sp c 4 0) 3 = zz_sg c 3 from rfl, h3]
    exact Int32.add_zero _
  · obtain ⟨q1, q2, rfl, hw⟩ := q
    rw [zz_bd_a]
    refine zr_bd (zL_give q1 (by decide) (fun _ => ?_)) (fun _ C2 _ R2 p => ?_)
    · rw [zL_c3 q1, show zz_sg (zz_sp c 4 0) 3 = zz_sg c 3 from rfl, h3]
    · obtain ⟨p1, p2⟩ := p
      by_cases hx0 : x = 0
      · subst hx0
        have p3 := zL_sp p1 5 1 rfl rfl rfl
        simp only [if_true]
        unfold PR_transfer_195
        rw [zz_bo_1, zz_gd_t, zz_nm_e, show zz_sg (zz_sp C2 5 1) 5 = 1 from rfl, if_neg (by decide)]
        by_cases hf : zF C2
        · simp only [zL_R0t p1 hf, if_true, zz_nm_e, zL_r3 p1, hr3, zi_in (show 6 ≤ 2 ^ 31 by decide) ht, zz_gd_t, nI_clamp (show t < 2 ^ 31 by omega), zz_bd_s]
          exact zr_ret ⟨fun _ => ⟨rfl, Or.inr (zL_up (zL_rap p3 5 t 0 rfl rfl rfl rfl rfl rfl rfl) (by decide) (by decide) (by decide))⟩, fun z => absurd hf z⟩
        · simp only [zL_R0f p1 hf, if_false]
          unfold MO_giveBack_43
          obtain ⟨m, d, w, e, v, e1, e2, hm, hk, hd, he, h9', hst⟩ := p1
          have hfm : ¬ zmf m = 0 := by rw [e1, zF_iff hm] at hf; exact hf
          obtain ⟨y, y1, y2⟩ := MO_called_r (c := r) (d := e) (w := v) hm (by omega) hw 0
          rw [za_called_f hfm] at y1
          have p1' : zL 2 8 (zz_sp c 4 0) r C2 R2 := ⟨m, d, w, e, v, e1, e2, hm, hk, hd, he, h9', hst⟩
          rw [e2, y1, zz_bd_s, ← e2, MO_back_e p1' ht hr3]
          simp only [zL_R0f p1' hf, if_false, zz_bd_s]
          exact zr_ret ⟨fun z => absurd z hf, fun _ => ⟨_, _, zL_up p3 (by decide) (by decide) (by decide), ⟨rfl, rfl, rfl, fun _ _ => rfl⟩, zXr_refl t r⟩⟩
      · have p3 := zL_sp p1 5 0 rfl rfl rfl
        simp only [hx0, if_false]
        unfold PR_transfer_195
        rw [zz_bo_0, zz_gd_t, zz_nm_e, show zz_sg (zz_sp C2 5 0) 5 = 0 from rfl, if_pos rfl]
        rw [show (if zz_sg R2 2 = 0 then MO_giveBack_43 x R2 else MO_giveBack_43 x R2) = MO_giveBack_43 x R2 from by split <;> rfl]
        unfold MO_giveBack_43
        rw [zz_bd_a]
        refine zr_bd (zL_goTo p3 (by decide) hw (fun z => ⟨rfl, rfl⟩)) (fun _ C3 y R3 k => ?_)
        obtain ⟨z, k1, k2⟩ := k
        rw [MO_back_e k1 ht hr3]
        by_cases hf : zF C3
        · obtain ⟨-, e, hy⟩ := k2 hf
          subst e
          simp only [zL_R0t k1 hf, if_true, zz_bd_s]
          exact zr_ret ⟨fun _ => ⟨rfl, Or.inl ⟨z, hy, zL_rap k1 7 t z rfl rfl rfl rfl rfl rfl rfl⟩⟩, fun z => absurd hf z⟩
        · simp only [zL_R0f k1 hf, if_false, zz_bd_s]
          exact zr_ret ⟨fun z => absurd z hf, fun _ => ⟨_, _, zL_up k1 (by decide) (by decide) (by decide), ⟨rfl, rfl, rfl, fun _ _ => rfl⟩, zXr_refl t r⟩⟩
