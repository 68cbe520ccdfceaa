/-! both sides step by step -/
theorem ME_read_e {c : zz_S} {m : zM} {d : Nat} {w : Nat → Int32} (h : zm_ok m) (x : Int32) : ME_read_f x (zC c m d w) = some ((za_read x m).1, zC c (za_read x m).2 d w) := ME_read_C h x
theorem MO_read_r {c : zz_S} {m : zM} {d : Nat} {w : Nat → Int32} (h : zm_ok m) (x : Int32) : MO_read_f x (zR c m d w) = some ((za_read x m).1, zR c (za_read x m).2 d w) := MO_read_M h x
theorem ME_write_e {c : zz_S} {m : zM} {d : Nat} {w : Nat → Int32} (h : zm_ok m) (hk : zmk m < 16) (x v : Int32) : ME_write_f x v (zC c m d w) = some ((), zC c (za_write x v m) d w) := ME_write_C h hk x v
theorem MO_write_r {c : zz_S} {m : zM} {d : Nat} {w : Nat → Int32} (h : zm_ok m) (hk : zmk m < 40) (x v : Int32) : MO_write_f x v (zR c m d w) = some ((), zR c (za_write x v m) d w) := MO_write_M h hk x v
theorem ME_fail_e1 {c : zz_S} {m : zM} {d : Nat} {w : Nat → Int32} (h : zm_ok m) : ME_fail_f (1 : Int32) (zC c m d w) = some ((), zC c (za_fail 1 m) d w) := ME_fail_C1 h
theorem MO_wrong_r1 {c : zz_S} {m : zM} {d : Nat} {w : Nat → Int32} (h : zm_ok m) : MO_wrong_f (1 : Int32) (zR c m d w) = some ((), zR c (za_fail 1 m) d w) := MO_wrong_M1 h
theorem ME_fail_e2 {c : zz_S} {m : zM} {d : Nat} {w : Nat → Int32} (h : zm_ok m) : ME_fail_f (2 : Int32) (zC c m d w) = some ((), zC c (za_fail 2 m) d w) := ME_fail_C2 h
theorem MO_wrong_r2 {c : zz_S} {m : zM} {d : Nat} {w : Nat → Int32} (h : zm_ok m) : MO_wrong_f (2 : Int32) (zR c m d w) = some ((), zR c (za_fail 2 m) d w) := MO_wrong_M2 h
theorem ME_fail_e3 {c : zz_S} {m : zM} {d : Nat} {w : Nat → Int32} (h : zm_ok m) : ME_fail_f (3 : Int32) (zC c m d w) = some ((), zC c (za_fail 3 m) d w) := ME_fail_C3 h
theorem MO_wrong_r3 {c : zz_S} {m : zM} {d : Nat} {w : Nat → Int32} (h : zm_ok m) : MO_wrong_f (3 : Int32) (zR c m d w) = some ((), zR c (za_fail 3 m) d w) := MO_wrong_M3 h
theorem ME_fail_e4 {c : zz_S} {m : zM} {d : Nat} {w : Nat → Int32} (h : zm_ok m) : ME_fail_f (4 : Int32) (zC c m d w) = some ((), zC c (za_fail 4 m) d w) := ME_fail_C4 h
theorem MO_wrong_r4 {c : zz_S} {m : zM} {d : Nat} {w : Nat → Int32} (h : zm_ok m) : MO_wrong_f (4 : Int32) (zR c m d w) = some ((), zR c (za_fail 4 m) d w) := MO_wrong_M4 h
theorem ME_fail_e5 {c : zz_S} {m : zM} {d : Nat} {w : Nat → Int32} (h : zm_ok m) : ME_fail_f (5 : Int32) (zC c m d w) = some ((), zC c (za_fail 5 m) d w) := ME_fail_C5 h
theorem MO_wrong_r5 {c : zz_S} {m : zM} {d : Nat} {w : Nat → Int32} (h : zm_ok m) : MO_wrong_f (5 : Int32) (zR c m d w) = some ((), zR c (za_fail 5 m) d w) := MO_wrong_M5 h
theorem ME_fail_e6 {c : zz_S} {m : zM} {d : Nat} {w : Nat → Int32} (h : zm_ok m) : ME_fail_f (6 : Int32) (zC c m d w) = some ((), zC c (za_fail 6 m) d w) := ME_fail_C6 h
theorem MO_wrong_r6 {c : zz_S} {m : zM} {d : Nat} {w : Nat → Int32} (h : zm_ok m) : MO_wrong_f (6 : Int32) (zR c m d w) = some ((), zR c (za_fail 6 m) d w) := MO_wrong_M6 h
theorem ME_fail_e7 {c : zz_S} {m : zM} {d : Nat} {w : Nat → Int32} (h : zm_ok m) : ME_fail_f (7 : Int32) (zC c m d w) = some ((), zC c (za_fail 7 m) d w) := ME_fail_C7 h
theorem MO_wrong_r7 {c : zz_S} {m : zM} {d : Nat} {w : Nat → Int32} (h : zm_ok m) : MO_wrong_f (7 : Int32) (zR c m d w) = some ((), zR c (za_fail 7 m) d w) := MO_wrong_M7 h
theorem ME_fail_e8 {c : zz_S} {m : zM} {d : Nat} {w : Nat → Int32} (h : zm_ok m) : ME_fail_f (8 : Int32) (zC c m d w) = some ((), zC c (za_fail 8 m) d w) := ME_fail_C8 h
theorem MO_wrong_r8 {c : zz_S} {m : zM} {d : Nat} {w : Nat → Int32} (h : zm_ok m) : MO_wrong_f (8 : Int32) (zR c m d w) = some ((), zR c (za_fail 8 m) d w) := MO_wrong_M8 h
theorem ME_fail_e9 {c : zz_S} {m : zM} {d : Nat} {w : Nat → Int32} (h : zm_ok m) : ME_fail_f (9 : Int32) (zC c m d w) = some ((), zC c (za_fail 9 m) d w) := ME_fail_C9 h
theorem MO_wrong_r9 {c : zz_S} {m : zM} {d : Nat} {w : Nat → Int32} (h : zm_ok m) : MO_wrong_f (9 : Int32) (zR c m d w) = some ((), zR c (za_fail 9 m) d w) := MO_wrong_M9 h
theorem FR_byteAt_e {c : zz_S} {m : zM} {d : Nat} {w : Nat → Int32} (h : zm_ok m) (x b : Int32) : FR_byteAt_f x b (zC c m d w) = some ((za_byte x b m).1, zC c (za_byte x b m).2 d w) := FR_byteAt_C h x b
theorem MO_byteAt_r {c : zz_S} {m : zM} {d : Nat} {w : Nat → Int32} (h : zm_ok m) (x : Int32) {n : Nat} (hn : n < 2 ^ 31) : MO_byteAt_f x (nI n) (zR c m d w) = some ((za_byte x (nI n) m).1, zR c (za_byte x (nI n) m).2 d w) := MO_byteAt_M h x hn
theorem FR_take_e {c : zz_S} {m : zM} {d : Nat} {w : Nat → Int32} {k : Nat} (hk : k < 8) (h : zm_ok m) (h16 : zmk m + 2 ≤ 16) : FR_take_f (nI k) (zC c m d w) = some ((za_take k m).1, zC c (za_take k m).2 d w) := FR_take_C hk h h16
theorem MO_take_r {c : zz_S} {m : zM} {d : Nat} {w : Nat → Int32} {k : Nat} (hk : k < 8) (h : zm_ok m) (h40 : zmk m + 2 ≤ 40) : MO_take_f (nI k) (zR c m d w) = some ((za_take k m).1, zR c (za_take k m).2 d w) := MO_take_M hk h h40
theorem FR_giveBack_e {c : zz_S} {m : zM} {d : Nat} {w : Nat → Int32} (h : zm_ok m) (h16 : zmk m + 2 ≤ 16) (x : Int32) : FR_giveBack_f x (zC c m d w) = some ((), zC c (za_give x m) d w) := FR_giveBack_C h h16 x
theorem MO_give_r {c : zz_S} {m : zM} {d : Nat} {w : Nat → Int32} (h : zm_ok m) (h40 : zmk m + 2 ≤ 40) (x : Int32) : MO_give_f x (zR c m d w) = some ((), zR c (za_give x m) d w) := MO_give_M h h40 x
theorem FR_meant_e {c : zz_S} {m : zM} {d : Nat} {w : Nat → Int32} (h : zm_ok m) (x : Int32) : FR_meant_f x (zC c m d w) = some ((za_meant x m).1, zC c (za_meant x m).2 d w) := FR_meant_C h x
theorem MO_meant_r {c : zz_S} {m : zM} {d : Nat} {w : Nat → Int32} (h : zm_ok m) {x : Int32} (hx : ∃ w, w < 65536 ∧ x = nI w) : ∃ v, MO_meant_f x (zR c m d w) = some (v, zR c (za_meant x m).2 d w) ∧ (zmf (za_meant x m).2 = 0 → v = (za_meant x m).1) := MO_meant_M h hx
theorem FR_open_e {c : zz_S} {m : zM} {d : Nat} {w : Nat → Int32} (h : zm_ok m) (h16 : zmk m + 5 ≤ 16) (x f : Int32) : FR_open_f x f (zC c m d w) = some ((za_open ((x >>> ((5 : Int32) &&& 31)) &&& 15) ((x >>> ((1 : Int32) &&& 31)) &&& 15) f m).1, zC c (za_open ((x >>> ((5 : Int32) &&& 31)) &&& 15) ((x >>> ((1 : Int32) &&& 31)) &&& 15) f m).2 d w) := FR_open_C h h16 x f
/-- the reference's road behind a link -/
def za_opR (x f : Int32) (m : zM) : Int32 × zM := za_open (zz_rem (x / 32) 16) (zz_rem (x / 2) 16) f m
theorem zi_open {w : Nat} (hw : w < 65536) : (nI w >>> ((5 : Int32) &&& 31)) &&& 15 = zz_rem (nI w / 32) 16 ∧ (nI w >>> ((1 : Int32) &&& 31)) &&& 15 = zz_rem (nI w / 2) 16 := by
  have e5 : (5 : Int32) = nI 5 := by decide
  have e1 : (1 : Int32) = nI 1 := by decide
  have e32 : (32 : Int32) = nI 32 := by decide
  have e2 : (2 : Int32) = nI 2 := by decide
  have e16 : (16 : Int32) = nI 16 := by decide
  constructor
  · rw [e5, zi_shr (by omega) (by decide), zi_15, e32, zi_div (by omega) (by decide), e16, zi_rem (by omega) (by decide)]
  · rw [e1, zi_shr (by omega) (by decide), zi_15, e2, zi_div (by omega) (by decide), e16, zi_rem (by omega) (by decide)]
theorem MO_opened_r {c : zz_S} {m : zM} {d : Nat} {w : Nat → Int32} (h : zm_ok m) (h40 : zmk m + 5 ≤ 40) (g i f : Int32) : (zz_bd (MO_read_f ((32 : Int32) + g) (zR c m d w)) fun r_5 s_4 => (zz_bd (MO_read_f r_5 s_4) fun r_7 s_6 => (zz_bd (MO_read_f (r_7 + i) s_6) fun r_9 s_8 => (zz_bd (MO_byteAt_f r_7 r_9 s_8) fun r_11 s_10 => (zz_nm (r_11 &&& (7 : Int32)) fun v_12 => (zz_bd (MO_take_f v_12 s_10) fun r_14 s_13 => (zz_bd (MO_write_f r_14 f s_13) fun _ s_15 => (zz_bd (MO_write_f (r_14 + (1 : Int32)) g s_15) fun _ s_16 => (zz_bd (MO_write_f (r_14 + (2 : Int32)) (r_9 + (1 : Int32)) s_16) fun _ s_17 => (some (r_14, s_17))))))))))) = some ((za_open g i f m).1, zR c (za_open g i f m).2 d w) := by
  unfold za_open
  dsimp only
  rw [MO_read_r h, zz_bd_s]
  have h1 := za_read_ok (32 + g) h
  have k1 := za_read_k (32 + g) m
  generalize za_read (32 + g) m = r1 at h1 k1 ⊢
  rw [MO_read_r h1, zz_bd_s]
  have h2 := za_read_ok r1.1 h1
  have k2 := za_read_k r1.1 r1.2
  generalize za_read r1.1 r1.2 = r2 at h2 k2 ⊢
  rw [MO_read_r h2, zz_bd_s]
  have h3 := za_read_ok (r2.1 + i) h2
  have k3 := za_read_k (r2.1 + i) r2.2
  obtain ⟨w3, hw3, e3⟩ := za_read_w (r2.1 + i) h2
  generalize za_read (r2.1 + i) r2.2 = r3 at h3 k3 e3 ⊢
  obtain ⟨v3, m3⟩ := r3
  dsimp only at h3 k3 e3 ⊢
  subst e3
  rw [MO_byteAt_r h3 _ (by omega), zz_bd_s, zz_nm_e]
  have h4 := za_byte_ok r2.1 (nI w3) h3
  have k4 := za_byte_k r2.1 (nI w3) m3
  obtain ⟨w4, hw4, e4⟩ := za_byte_w r2.1 (nI w3) h3
  generalize za_byte r2.1 (nI w3) m3 = r4 at h4 k4 e4 ⊢
  have e7 : r4.1 &&& 7 = nI (w4 % 8) := by rw [e4, zi_7]
  rw [e7, nI_clamp (by omega), MO_take_r (by omega) h4 (by omega), zz_bd_s]
  have h5 := za_take_ok (k := w4 % 8) h4
  have k5 := za_take_k (w4 % 8) r4.2
  generalize za_take (w4 % 8) r4.2 = r5 at h5 k5 ⊢
  rw [MO_write_r h5 (by omega), zz_bd_s]
  have k6 := za_write_k r5.1 f r5.2
  have h6 := za_write_ok r5.1 f h5
  rw [MO_write_r h6 (by omega), zz_bd_s]
  have k7 := za_write_k (r5.1 + 1) g (za_write r5.1 f r5.2)
  rw [MO_write_r (za_write_ok _ _ h6) (by omega)]
  rfl
theorem MO_called_r {c : zz_S} {m : zM} {d : Nat} {w : Nat → Int32} (h : zm_ok m) (h40 : zmk m + 5 ≤ 40) {x : Int32} (hx : ∃ w, w < 65536 ∧ x = nI w) (f : Int32) : ∃ v, MO_called_f x f (zR c m d w) = some (v, zR c (za_called x f m).2 d w) ∧ (zmf (za_called x f m).2 = 0 → v = (za_called x f m).1) := by
  obtain ⟨v, e, hv⟩ := MO_meant_r (c := c) (d := d) (w := w) h hx
  have hm := za_meant_ok (x := x) h
  have hk := za_meant_k x m
  have hg := za_meant_g (x := x) (m := m)
  have hw := za_meant_w h hx
  unfold MO_called_f za_called
  rw [e, zz_bd_s]
  generalize za_meant x m = p at hv hm hk hg hw ⊢
  obtain ⟨p1, m1⟩ := p
  dsimp only at hv hm hk hg hw ⊢
  simp only [zR_sg2, zm_f2 hm]
  by_cases hf : zmf m1 = 0
  · obtain ⟨w1, hw1, rfl⟩ := hw
    have hv := hv hf
    subst hv
    obtain ⟨g1, g2⟩ := hg hf
    simp only [hf, not_true, if_false, zi_r4 hw1]
    rw [zi_3] at g2
    have g2' : ¬ w1 % 4 = 2 := fun z => g2 (by rw [z]; rfl)
    unfold za_to
    dsimp only
    have hodd : ((nI w1 &&& 1) = 0) = (w1 % 2 = 0) := by rw [zi_1]; exact propext (zi_z (by omega))
    simp only [hodd]
    by_cases h4 : w1 % 4 = 0
    · rw [if_pos h4, if_pos (by omega)]
      exact ⟨_, rfl, fun _ => rfl⟩
    · rw [if_neg h4, if_neg (by omega), zz_nm_e, MO_opened_r hm (by omega), (zi_open hw1).1, (zi_open hw1).2]
      exact ⟨_, rfl, fun _ => rfl⟩
  · simp only [hf, not_false_eq_true, if_true]
    have e1 := za_to_f (f := f) (p := (p1, m1)) hf
    dsimp only at e1
    rw [e1]
    exact ⟨v, rfl, fun z => absurd z hf⟩
theorem PR_goTo_e {c : zz_S} {m : zM} {d : Nat} {w : Nat → Int32} (h : zm_ok m) (h16 : zmk m + 5 ≤ 16) (x f : Int32) : PR_goTo_f x f (zC c m d w) = some ((), zC (zz_sp c 3 (za_called x f m).1) (za_called x f m).2 d w) := by
  have hm := za_meant_ok (x := x) h
  have hk := za_meant_k x m
  unfold PR_goTo_f za_called
  rw [FR_meant_e h, zz_bd_s]
  generalize za_meant x m = p at hm hk ⊢
  unfold za_to FR_isProcedure_f
  by_cases h1 : (p.1 &&& 1) = 0
  · simp only [h1, if_true, zz_bd_s, PR_goTo_30, zz_nm_e, zC_sp3]
  · simp only [h1, if_false, zz_bd_s]
    rw [if_neg (by decide), FR_open_e hm (by omega), zz_bd_s]
    simp only [PR_goTo_30, zz_nm_e, zC_sp3]
/-! the stack -/
theorem WS_pop_e0 {c : zz_S} {m : zM} {w : Nat → Int32} (h : zm_ok m) : WS_pop_f (zC c m 0 w) = some (0, zC c (za_fail 5 m) 0 w) := by
  unfold WS_pop_f
  rw [zC_sg13, if_pos nI_0, ME_fail_e5 h, zz_bd_s]
theorem WS_pop_e1 {c : zz_S} {m : zM} {d : Nat} {w : Nat → Int32} (hd : d + 1 ≤ 9) : WS_pop_f (zC c m (d + 1) w) = some (w d, zC c m d w) := by
  unfold WS_pop_f
  rw [zC_sg13, if_neg (nI_ne0 (by omega) (by omega)), nI_pred, zz_nm_e, zC_sp13, zz_nm_e, zC_sg13, zi_in (by decide) (by omega), zz_gd_t, nI_clamp (by omega), zC_ag6]
theorem WS_push_e {c : zz_S} {m : zM} {d : Nat} {w : Nat → Int32} (hd : d < 9) (x : Int32) : WS_push_f x (zC c m d w) = some ((), zC c m (d + 1) (upd w d (x &&& 65535))) := by
  have e9 : (9 : Int32) = nI 9 := by decide
  unfold WS_push_f
  rw [zC_sg13, if_neg (by rw [e9, nI_leI (by decide) (by omega)]; omega), zz_nm_e, zi_in (by decide) hd, zz_gd_t, nI_clamp (by omega), zC_ap6, zz_nm_e, zC_sg13, nI_1, zC_sp13, zz_nm_e]
theorem WS_push_e9 {c : zz_S} {m : zM} {w : Nat → Int32} (x : Int32) : WS_push_f x (zC c m 9 w) = some ((), zC c m 9 w) := by
  unfold WS_push_f
  rw [zC_sg13, if_pos (by decide)]
theorem MO_pop_rf {c : zz_S} {m : zM} {d : Nat} {w : Nat → Int32} (h : zm_ok m) (hf : ¬ zmf m = 0) : MO_pop_f (zR c m d w) = some (0, zR c m d w) := by
  unfold MO_pop_f
  simp only [zR_sg2, zm_f1 h, hf, if_false]
theorem MO_pop_r0 {c : zz_S} {m : zM} {w : Nat → Int32} (h : zm_ok m) : MO_pop_f (zR c m 0 w) = some (0, zR c (za_fail 5 m) 0 w) := by
  unfold MO_pop_f
  simp only [zR_sg2, zm_f1 h, zR_sg4, nI_0, if_true, MO_wrong_r5 h, zz_bd_s]
  by_cases hf : zmf m = 0
  · rw [if_pos hf]
  · rw [if_neg hf, za_fail_f hf]
theorem MO_pop_r1 {c : zz_S} {m : zM} {d : Nat} {w : Nat → Int32} (h : zm_ok m) (hf : zmf m = 0) (hd : d + 1 ≤ 9) : MO_pop_f (zR c m (d + 1) w) = some (w d, zR c m d w) := by
  unfold MO_pop_f
  have hn : ¬ nI (d + 1) = 0 := nI_ne0 (by omega) (by omega)
  have hi : zz_in (nI d) 48 = true := zi_in (by decide) (by omega)
  have hc : (nI d).toNatClampNeg = d := nI_clamp (by omega)
  simp only [zR_sg2, zm_f1 h, eq_true hf, if_true, zR_sg4, hn, if_false, nI_pred, zz_nm_e, zR_sp4, hi, zz_gd_t, hc, zR_ag16]
theorem MO_push_rf {c : zz_S} {m : zM} {d : Nat} {w : Nat → Int32} (h : zm_ok m) (hf : ¬ zmf m = 0) (x : Int32) : MO_push_f x (zR c m d w) = some ((), zR c m d w) := by
  unfold MO_push_f
  simp only [zR_sg2, zm_f1 h, hf, if_false]
theorem MO_push_r {c : zz_S} {m : zM} {d : Nat} {w : Nat → Int32} (h : zm_ok m) (hf : zmf m = 0) (hd : d < 48) (x : Int32) : MO_push_f x (zR c m d w) = some ((), zR c m (d + 1) (upd w d (x &&& 65535))) := by
  unfold MO_push_f
  simp only [zR_sg2, zm_f1 h, eq_true hf, if_true, MO_low_f, zz_bd_s, zR_sg4, zz_nm_e]
  rw [zi_in (by decide) hd, zz_gd_t, nI_clamp (by omega), zR_ap16, zR_sg4, nI_1, zR_sp4]
/-! lockstep -/
def zF (C : zz_S) : Prop := zz_sg C 1 = 0
def zWd (x : Int32) : Prop := ∃ w, w < 65536 ∧ x = nI w
def zr {α β : Type} (x : Option (α × zz_S)) (y : Option (β × zz_S)) (P : α → zz_S → β → zz_S → Prop) : Prop := ∃ a C b R, x = some (a, C) ∧ y = some (b, R) ∧ P a C b R
theorem zr_ret {α β : Type} {a : α} {C : zz_S} {b : β} {R : zz_S} {P : α → zz_S → β → zz_S → Prop} (h : P a C b R) : zr (some (a, C)) (some (b, R)) P := ⟨a, C, b, R, rfl, rfl, h⟩
theorem zr_bd {α β γ δ : Type} {x : Option (α × zz_S)} {y : Option (β × zz_S)} {f : α → zz_S → Option (γ × zz_S)} {g : β → zz_S → Option (δ × zz_S)} {Q : α → zz_S → β → zz_S → Prop} {P : γ → zz_S → δ → zz_S → Prop} (h : zr x y Q) (k : ∀ a C b R, Q a C b R → zr (f a C) (g b R) P) : zr (zz_bd x f) (zz_bd y g) P := by
  obtain ⟨a, C, b, R, rfl, rfl, q⟩ := h
  exact k a C b R q
theorem zr_mono {α β : Type} {x : Option (α × zz_S)} {y : Option (β × zz_S)} {Q P : α → zz_S → β → zz_S → Prop} (h : zr x y Q) (k : ∀ a C b R, Q a C b R → P a C b R) : zr x y P := by
  obtain ⟨a, C, b, R, e1, e2, q⟩ := h
  exact ⟨a, C, b, R, e1, e2, k a C b R q⟩
def zL (n D : Nat) (c r C R : zz_S) : Prop := ∃ m d w e v, C = zC c m d w ∧ R = zR r m e v ∧ zm_ok m ∧ zmk m ≤ n ∧ d ≤ D ∧ e ≤ 9 ∧ D ≤ 9 ∧ (zmf m = 0 → e = d ∧ ∀ i, i < d → w i = v i ∧ zWd (w i))
theorem zL_up {n D n' D' : Nat} {c r C R : zz_S} (h : zL n D c r C R) (hn : n ≤ n') (hD : D ≤ D') (h9 : D' ≤ 9) : zL n' D' c r C R := by
  obtain ⟨m, d, w, e, v, h1, h2, h3, h4, h5, h6, h7, h8⟩ := h
  exact ⟨m, d, w, e, v, h1, h2, h3, by omega, by omega, h6, h9, h8⟩
theorem zF_iff {c : zz_S} {m : zM} {d : Nat} {w : Nat → Int32} (h : zm_ok m) : zF (zC c m d w) ↔ zmf m = 0 := by
  unfold zF
  rw [zC_sg1]
  exact zi_z (zm_fl h)
theorem zL_sg2 {n D : Nat} {c r C R : zz_S} (h : zL n D c r C R) : zz_sg R 2 = zz_sg C 1 := by
  obtain ⟨m, d, w, e, v, rfl, rfl, h3⟩ := h
  rfl
/-- whether the reference is at fault -/
theorem zL_R0 {n D : Nat} {c r C R : zz_S} (h : zL n D c r C R) : (zz_sg R 2 = 0) = zF C := by rw [zL_sg2 h]; rfl
theorem zL_R1 {n D : Nat} {c r C R : zz_S} (h : zL n D c r C R) : (zz_sg R 2 ≤ 0) = zF C := by
  obtain ⟨m, d, w, e, v, rfl, rfl, hm, -⟩ := h
  rw [zR_sg2, propext (zF_iff hm), zm_f1 hm]
theorem zL_R2 {n D : Nat} {c r C R : zz_S} (h : zL n D c r C R) : (0 < zz_sg R 2) = ¬ zF C := by
  obtain ⟨m, d, w, e, v, rfl, rfl, hm, -⟩ := h
  rw [zR_sg2, propext (zF_iff hm), zm_f2 hm]
theorem zL_pop {n D : Nat} {c r C R : zz_S} (h : zL n D c r C R) : zr (WS_pop_f C) (MO_pop_f R) (fun a C' b R' => zL n (D - 1) c r C' R' ∧ zWd b ∧ (zF C' → zF C ∧ a = b)) := by
  obtain ⟨m, d, w, e, v, rfl, rfl, hm, hk, hd, he, h9, hs⟩ := h
  have z0 : zWd 0 := ⟨0, by decide, nI_0.symm⟩
  by_cases hf : zmf m = 0
  · obtain ⟨rfl, hw⟩ := hs hf
    cases e with
    | zero =>
      rw [WS_pop_e0 hm, MO_pop_r0 hm]
      have hm' := za_fail_ok (e := 5) (by decide) hm
      exact zr_ret ⟨⟨_, 0, w, 0, v, rfl, rfl, hm', by rw [za_fail_k]; exact hk, by omega, by omega, by omega, fun z => absurd z (by rw [za_fail_0 hf]; exact (by decide : ¬ (5 : Nat) = 0))⟩, z0, fun _ => ⟨(zF_iff hm).mpr hf, rfl⟩⟩
    | succ d =>
      rw [WS_pop_e1 (by omega), MO_pop_r1 hm hf (by omega)]
      obtain ⟨h1, h2⟩ := hw d (by omega)
      exact zr_ret ⟨⟨_, d, w, d, v, rfl, rfl, hm, hk, by omega, by omega, by omega, fun z => ⟨rfl, fun i hi => hw i (by omega)⟩⟩, h1 ▸ h2, fun _ => ⟨(zF_iff hm).mpr hf, h1⟩⟩
  · rw [MO_pop_rf hm hf]
    cases d with
    | zero =>
      rw [WS_pop_e0 hm, za_fail_f hf]
      exact zr_ret ⟨⟨_, 0, w, e, v, rfl, rfl, hm, hk, by omega, he, by omega, fun z => absurd z hf⟩, z0, fun z => absurd ((zF_iff hm).mp z) hf⟩
    | succ d =>
      rw [WS_pop_e1 (by omega)]
      exact zr_ret ⟨⟨_, d, w, e, v, rfl, rfl, hm, hk, by omega, he, by omega, fun z => absurd z hf⟩, z0, fun z => absurd ((zF_iff hm).mp z) hf⟩
theorem zL_push {n D : Nat} {c r C R : zz_S} (h : zL n D c r C R) (hD : D ≤ 8) {a b : Int32} (hab : zF C → a &&& 65535 = b &&& 65535) : zr (WS_push_f a C) (MO_push_f b R) (fun _ C' _ R' => zL n (D + 1) c r C' R' ∧ (zF C' → zF C)) := by
  obtain ⟨m, d, w, e, v, rfl, rfl, hm, hk, hd, he, h9, hs⟩ := h
  rw [WS_push_e (by omega)]
  by_cases hf : zmf m = 0
  · obtain ⟨rfl, hw⟩ := hs hf
    rw [MO_push_r hm hf (by omega), hab ((zF_iff hm).mpr hf)]
    refine zr_ret ⟨⟨_, e + 1, _, e + 1, _, rfl, rfl, hm, hk, by omega, by omega, by omega, fun z => ⟨rfl, fun i hi => ?_⟩⟩, fun z => (zF_iff hm).mpr hf⟩
    unfold upd
    split
    · exact ⟨rfl, zi_w b⟩
    · exact hw i (by omega)
  · rw [MO_push_rf hm hf]
    exact zr_ret ⟨⟨_, d + 1, _, e, v, rfl, rfl, hm, hk, by omega, he, by omega, fun z => absurd z hf⟩, fun z => absurd ((zF_iff hm).mp z) hf⟩
theorem zL_read {n D : Nat} {c r C R : zz_S} (h : zL n D c r C R) {a b : Int32} (hab : zF C → a = b) : zr (ME_read_f a C) (MO_read_f b R) (fun x C' y R' => zL n D c r C' R' ∧ (zF C' → zF C) ∧ x = y ∧ zWd y) := by
  obtain ⟨m, d, w, e, v, rfl, rfl, hm, hk, hd, he, h9, hs⟩ := h
  rw [ME_read_e hm, MO_read_r hm]
  by_cases hf : zmf m = 0
  · have := hab ((zF_iff hm).mpr hf)
    subst this
    exact zr_ret ⟨⟨_, d, w, e, v, rfl, rfl, za_read_ok a hm, by rw [za_read_k]; exact hk, hd, he, h9, fun _ => hs hf⟩, fun _ => (zF_iff hm).mpr hf, rfl, za_read_w a hm⟩
  · rw [za_read_f hf, za_read_f hf]
    exact zr_ret ⟨⟨_, d, w, e, v, rfl, rfl, hm, hk, hd, he, h9, hs⟩, id, rfl, 0, by decide, nI_0.symm⟩
theorem za_write_v {x v v' : Int32} {m : zM} (h : v &&& 65535 = v' &&& 65535) : za_write x v m = za_write x v' m := by
  unfold za_write
  rw [h]
theorem zL_write {n D : Nat} {c r C R : zz_S} (h : zL n D c r C R) (hn : n < 16) {a b x y : Int32} (hab : zF C → a = b ∧ x &&& 65535 = y &&& 65535) : zr (ME_write_f a x C) (MO_write_f b y R) (fun _ C' _ R' => zL (n + 1) D c r C' R' ∧ (zF C' → zF C)) := by
  obtain ⟨m, d, w, e, v, rfl, rfl, hm, hk, hd, he, h9, hs⟩ := h
  rw [ME_write_e hm (by omega), MO_write_r hm (by omega)]
  by_cases hf : zmf m = 0
  · obtain ⟨e1, e2⟩ := hab ((zF_iff hm).mpr hf)
    subst e1
    rw [za_write_v e2]
    have hk' := za_write_k a y m
    exact zr_ret ⟨⟨_, d, w, e, v, rfl, rfl, za_write_ok _ _ hm, by omega, hd, he, h9, fun _ => hs hf⟩, fun _ => (zF_iff hm).mpr hf⟩
  · rw [za_write_f hf, za_write_f hf]
    exact zr_ret ⟨⟨_, d, w, e, v, rfl, rfl, hm, by omega, hd, he, h9, hs⟩, id⟩
theorem zL_take {n D : Nat} {c r C R : zz_S} (h : zL n D c r C R) (hn : n + 2 ≤ 16) {j k : Nat} (hj : j < 8) (hk8 : k < 8) (hab : zF C → j = k) : zr (FR_take_f (nI j) C) (MO_take_f (nI k) R) (fun x C' y R' => zL (n + 2) D c r C' R' ∧ (zF C' → zF C ∧ x = y) ∧ zWd y) := by
  obtain ⟨m, d, w, e, v, rfl, rfl, hm, hk, hd, he, h9, hs⟩ := h
  rw [FR_take_e hj hm (by omega), MO_take_r hk8 hm (by omega)]
  by_cases hf : zmf m = 0
  · have := hab ((zF_iff hm).mpr hf)
    subst this
    have hk' := za_take_k j m
    exact zr_ret ⟨⟨_, d, w, e, v, rfl, rfl, za_take_ok hm, by omega, hd, he, h9, fun _ => hs hf⟩, fun _ => ⟨(zF_iff hm).mpr hf, rfl⟩, za_take_w hm⟩
  · rw [za_take_f hf, za_take_f hf]
    show zr (some (0, zC c m d w)) (some (0, zR r m e v)) _
    exact zr_ret ⟨⟨_, d, w, e, v, rfl, rfl, hm, by omega, hd, he, h9, hs⟩, fun z => ⟨z, rfl⟩, 0, by decide, nI_0.symm⟩
theorem zL_give {n D : Nat} {c r C R : zz_S} (h : zL n D c r C R) (hn : n + 2 ≤ 16) {a b : Int32} (hab : zF C → a = b) : zr (FR_giveBack_f a C) (MO_give_f b R) (fun _ C' _ R' => zL (n + 2) D c r C' R' ∧ (zF C' → zF C)) := by
  obtain ⟨m, d, w, e, v, rfl, rfl, hm, hk, hd, he, h9, hs⟩ := h
  rw [FR_giveBack_e hm (by omega), MO_give_r hm (by omega)]
  by_cases hf : zmf m = 0
  · have := hab ((zF_iff hm).mpr hf)
    subst this
    have hk' := za_give_k a m
    exact zr_ret ⟨⟨_, d, w, e, v, rfl, rfl, za_give_ok hm, by omega, hd, he, h9, fun _ => hs hf⟩, fun _ => (zF_iff hm).mpr hf⟩
  · rw [za_give_f hf, za_give_f hf]
    exact zr_ret ⟨⟨_, d, w, e, v, rfl, rfl, hm, by omega, hd, he, h9, hs⟩, id⟩
theorem zL_goTo {n D : Nat} {c r C R : zz_S} (h : zL n D c r C R) (hn : n + 5 ≤ 16) {a b f g : Int32} (hb : zWd b) (hab : zF C → a = b ∧ f = g) : zr (PR_goTo_f a f C) (MO_called_f b g R) (fun _ C' y R' => ∃ x, zL (n + 5) D (zz_sp c 3 x) r C' R' ∧ (zF C' → zF C ∧ x = y ∧ zWd y)) := by
  obtain ⟨m, d, w, e, v, rfl, rfl, hm, hk, hd, he, h9, hs⟩ := h
  rw [PR_goTo_e hm (by omega)]
  obtain ⟨u, e1, e2⟩ := MO_called_r (c := r) (d := e) (w := v) hm (by omega) hb g
  rw [e1]
  by_cases hf : zmf m = 0
  · obtain ⟨q1, q2⟩ := hab ((zF_iff hm).mpr hf)
    subst q1 q2
    have hk' := za_called_k a f m
    have hm' := za_called_ok (x := a) (f := f) hm
    refine zr_ret ⟨_, ⟨_, d, w, e, v, rfl, rfl, hm', by omega, hd, he, h9, fun _ => hs hf⟩, fun z => ?_⟩
    have := e2 ((zF_iff hm').mp z)
    exact ⟨(zF_iff hm).mpr hf, this.symm, this ▸ za_called_w hm hb⟩
  · rw [za_called_f hf, za_called_f hf]
    exact zr_ret ⟨_, ⟨_, d, w, e, v, rfl, rfl, hm, by omega, hd, he, h9, hs⟩, fun z => absurd ((zF_iff hm).mp z) hf⟩
