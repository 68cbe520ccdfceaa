/-! the reference behind a fault in the bytes of an instruction -/
theorem MO_call_J {t : Nat} {b : Int32} {r : zz_S} {m : zM} {e : Nat} {v : Nat → Int32} (ht : t < 6) (h3 : zz_sg r 3 = nI t) (hm : zm_ok m) (hk : zmk m + 5 ≤ 40) (hf : ¬ zmf m = 0) (hb : zWd b) : MO_call_f b (zR r m e v) = some ((), zR r m e v) := by
  unfold MO_call_f
  rw [zz_nm_e, zR_sg3, h3, zi_in (by decide) ht, zz_gd_t, nI_clamp (by omega), zz_nm_e, MO_write_r hm (by omega), za_write_f hf, zz_bd_s]
  obtain ⟨u, u1, u2⟩ := MO_called_r (c := r) (d := e) (w := v) hm hk hb (zz_ag (zR r m e v) 7 t)
  rw [za_called_f hf] at u1
  rw [u1, zz_bd_s, if_neg (by rw [zR_sg2, zm_f0 hm]; exact hf)]
theorem zJ_1 {t : Nat} {fi fr : Int32} {r : zz_S} {m : zM} {e n : Nat} {v : Nat → Int32} (ht : t < 6) (h3 : zz_sg r 3 = nI t) (hm : zm_ok m) (hk : zmk m + 5 ≤ 40) (hf : ¬ zmf m = 0) (hn : n < 256) (hg : ∃ g, g < 16 ∧ zz_sg r 8 = nI g) : ∃ b u, MO_act_46 fi 1 fr (nI n) (zR r m e v) = some (b, zR (zz_sp r 5 u) m e v) := by
  have hk1 : zmk m < 40 := by omega
  unfold MO_act_46
  simp (decide := true) only [zz_nm_e, ↓reduceIte, MO_push_rf hm hf, MO_pop_rf hm hf, MO_read_r hm, za_read_f hf, MO_write_r hm hk1, za_write_f hf, zz_bd_s]
  exact ⟨_, zz_sg r 5, by rw [zz_sp_self]⟩
theorem zJ_3 {t : Nat} {fi fr : Int32} {r : zz_S} {m : zM} {e n : Nat} {v : Nat → Int32} (ht : t < 6) (h3 : zz_sg r 3 = nI t) (hm : zm_ok m) (hk : zmk m + 5 ≤ 40) (hf : ¬ zmf m = 0) (hn : n < 256) (hg : ∃ g, g < 16 ∧ zz_sg r 8 = nI g) : ∃ b u, MO_act_46 fi 3 fr (nI n) (zR r m e v) = some (b, zR (zz_sp r 5 u) m e v) := by
  have hk1 : zmk m < 40 := by omega
  unfold MO_act_46
  simp (decide := true) only [zz_nm_e, ↓reduceIte, MO_push_rf hm hf, MO_pop_rf hm hf, MO_read_r hm, za_read_f hf, MO_write_r hm hk1, za_write_f hf, zz_bd_s]
  exact ⟨_, zz_sg r 5, by rw [zz_sp_self]⟩
theorem zJ_4 {t : Nat} {fi fr : Int32} {r : zz_S} {m : zM} {e n : Nat} {v : Nat → Int32} (ht : t < 6) (h3 : zz_sg r 3 = nI t) (hm : zm_ok m) (hk : zmk m + 5 ≤ 40) (hf : ¬ zmf m = 0) (hn : n < 256) (hg : ∃ g, g < 16 ∧ zz_sg r 8 = nI g) : ∃ b u, MO_act_46 fi 4 fr (nI n) (zR r m e v) = some (b, zR (zz_sp r 5 u) m e v) := by
  have hk1 : zmk m < 40 := by omega
  unfold MO_act_46
  simp (decide := true) only [zz_nm_e, ↓reduceIte, MO_push_rf hm hf, MO_pop_rf hm hf, MO_read_r hm, za_read_f hf, MO_write_r hm hk1, za_write_f hf, zz_bd_s]
  exact ⟨_, zz_sg r 5, by rw [zz_sp_self]⟩
theorem zJ_5 {t : Nat} {fi fr : Int32} {r : zz_S} {m : zM} {e n : Nat} {v : Nat → Int32} (ht : t < 6) (h3 : zz_sg r 3 = nI t) (hm : zm_ok m) (hk : zmk m + 5 ≤ 40) (hf : ¬ zmf m = 0) (hn : n < 256) (hg : ∃ g, g < 16 ∧ zz_sg r 8 = nI g) : ∃ b u, MO_act_46 fi 5 fr (nI n) (zR r m e v) = some (b, zR (zz_sp r 5 u) m e v) := by
  have hk1 : zmk m < 40 := by omega
  unfold MO_act_46
  simp (decide := true) only [zz_nm_e, ↓reduceIte, MO_push_rf hm hf, MO_pop_rf hm hf, MO_read_r hm, za_read_f hf, MO_write_r hm hk1, za_write_f hf, zz_bd_s]
  exact ⟨_, zz_sg r 5, by rw [zz_sp_self]⟩
theorem zJ_6 {t : Nat} {fi fr : Int32} {r : zz_S} {m : zM} {e n : Nat} {v : Nat → Int32} (ht : t < 6) (h3 : zz_sg r 3 = nI t) (hm : zm_ok m) (hk : zmk m + 5 ≤ 40) (hf : ¬ zmf m = 0) (hn : n < 256) (hg : ∃ g, g < 16 ∧ zz_sg r 8 = nI g) : ∃ b u, MO_act_46 fi 6 fr (nI n) (zR r m e v) = some (b, zR (zz_sp r 5 u) m e v) := by
  have hk1 : zmk m < 40 := by omega
  unfold MO_act_46
  simp (decide := true) only [zz_nm_e, ↓reduceIte, MO_push_rf hm hf, MO_pop_rf hm hf, MO_read_r hm, za_read_f hf, MO_write_r hm hk1, za_write_f hf, zz_bd_s]
  exact ⟨_, zz_sg r 5, by rw [zz_sp_self]⟩
theorem zJ_7 {t : Nat} {fi fr : Int32} {r : zz_S} {m : zM} {e n : Nat} {v : Nat → Int32} (ht : t < 6) (h3 : zz_sg r 3 = nI t) (hm : zm_ok m) (hk : zmk m + 5 ≤ 40) (hf : ¬ zmf m = 0) (hn : n < 256) (hg : ∃ g, g < 16 ∧ zz_sg r 8 = nI g) : ∃ b u, MO_act_46 fi 7 fr (nI n) (zR r m e v) = some (b, zR (zz_sp r 5 u) m e v) := by
  have hk1 : zmk m < 40 := by omega
  unfold MO_act_46
  simp (decide := true) only [zz_nm_e, ↓reduceIte, MO_push_rf hm hf, MO_pop_rf hm hf, MO_read_r hm, za_read_f hf, MO_write_r hm hk1, za_write_f hf, zz_bd_s]
  exact ⟨_, zz_sg r 5, by rw [zz_sp_self]⟩
theorem zJ_8 {t : Nat} {fi fr : Int32} {r : zz_S} {m : zM} {e n : Nat} {v : Nat → Int32} (ht : t < 6) (h3 : zz_sg r 3 = nI t) (hm : zm_ok m) (hk : zmk m + 5 ≤ 40) (hf : ¬ zmf m = 0) (hn : n < 256) (hg : ∃ g, g < 16 ∧ zz_sg r 8 = nI g) : ∃ b u, MO_act_46 fi 8 fr (nI n) (zR r m e v) = some (b, zR (zz_sp r 5 u) m e v) := by
  have hk1 : zmk m < 40 := by omega
  unfold MO_act_46
  simp (decide := true) only [zz_nm_e, ↓reduceIte, MO_push_rf hm hf, MO_pop_rf hm hf, MO_read_r hm, za_read_f hf, MO_write_r hm hk1, za_write_f hf, zz_bd_s]
  exact ⟨_, zz_sg r 5, by rw [zz_sp_self]⟩
theorem zJ_20 {t : Nat} {fi fr : Int32} {r : zz_S} {m : zM} {e n : Nat} {v : Nat → Int32} (ht : t < 6) (h3 : zz_sg r 3 = nI t) (hm : zm_ok m) (hk : zmk m + 5 ≤ 40) (hf : ¬ zmf m = 0) (hn : n < 256) (hg : ∃ g, g < 16 ∧ zz_sg r 8 = nI g) : ∃ b u, MO_act_46 fi 20 fr (nI n) (zR r m e v) = some (b, zR (zz_sp r 5 u) m e v) := by
  have hk1 : zmk m < 40 := by omega
  unfold MO_act_46
  unfold MO_low_f
  simp (decide := true) only [zz_nm_e, ↓reduceIte, zz_bd_s, zR_sp5]
  exact ⟨_, _, rfl⟩
theorem zJ_21 {t : Nat} {fi fr : Int32} {r : zz_S} {m : zM} {e n : Nat} {v : Nat → Int32} (ht : t < 6) (h3 : zz_sg r 3 = nI t) (hm : zm_ok m) (hk : zmk m + 5 ≤ 40) (hf : ¬ zmf m = 0) (hn : n < 256) (hg : ∃ g, g < 16 ∧ zz_sg r 8 = nI g) : ∃ b u, MO_act_46 fi 21 fr (nI n) (zR r m e v) = some (b, zR (zz_sp r 5 u) m e v) := by
  have hk1 : zmk m < 40 := by omega
  unfold MO_act_46
  unfold MO_act_407 MO_act_403 MO_act_407
  simp (decide := true) only [zz_nm_e, ↓reduceIte, MO_push_rf hm hf, MO_pop_rf hm hf, MO_read_r hm, za_read_f hf, MO_write_r hm hk1, za_write_f hf, zz_bd_s, zR_sg2, zm_f0 hm, hf, zR_sp5]
  exact ⟨_, _, rfl⟩
theorem zJ_22 {t : Nat} {fi fr : Int32} {r : zz_S} {m : zM} {e n : Nat} {v : Nat → Int32} (ht : t < 6) (h3 : zz_sg r 3 = nI t) (hm : zm_ok m) (hk : zmk m + 5 ≤ 40) (hf : ¬ zmf m = 0) (hn : n < 256) (hg : ∃ g, g < 16 ∧ zz_sg r 8 = nI g) : ∃ b u, MO_act_46 fi 22 fr (nI n) (zR r m e v) = some (b, zR (zz_sp r 5 u) m e v) := by
  have hk1 : zmk m < 40 := by omega
  unfold MO_act_46
  unfold MO_act_457 MO_act_453 MO_act_457 MO_signed_f
  simp (decide := true) only [zz_nm_e, ↓reduceIte, MO_push_rf hm hf, MO_pop_rf hm hf, MO_read_r hm, za_read_f hf, MO_write_r hm hk1, za_write_f hf, zz_bd_s, zR_sg2, zm_f0 hm, hf, zR_sp5]
  exact ⟨_, _, rfl⟩
theorem zJ_23 {t : Nat} {fi fr : Int32} {r : zz_S} {m : zM} {e n : Nat} {v : Nat → Int32} (ht : t < 6) (h3 : zz_sg r 3 = nI t) (hm : zm_ok m) (hk : zmk m + 5 ≤ 40) (hf : ¬ zmf m = 0) (hn : n < 256) (hg : ∃ g, g < 16 ∧ zz_sg r 8 = nI g) : ∃ b u, MO_act_46 fi 23 fr (nI n) (zR r m e v) = some (b, zR (zz_sp r 5 u) m e v) := by
  have hk1 : zmk m < 40 := by omega
  unfold MO_act_46
  have hfd := fun x => zh_field (R := zR r m e v) hn x
  simp (decide := true) only [zz_nm_e, ↓reduceIte, MO_push_rf hm hf, MO_pop_rf hm hf, MO_read_r hm, za_read_f hf, MO_write_r hm hk1, za_write_f hf, zz_bd_s, hfd]
  exact ⟨_, zz_sg r 5, by rw [zz_sp_self]⟩
theorem zJ_24 {t : Nat} {fi fr : Int32} {r : zz_S} {m : zM} {e n : Nat} {v : Nat → Int32} (ht : t < 6) (h3 : zz_sg r 3 = nI t) (hm : zm_ok m) (hk : zmk m + 5 ≤ 40) (hf : ¬ zmf m = 0) (hn : n < 256) (hg : ∃ g, g < 16 ∧ zz_sg r 8 = nI g) : ∃ b u, MO_act_46 fi 24 fr (nI n) (zR r m e v) = some (b, zR (zz_sp r 5 u) m e v) := by
  have hk1 : zmk m < 40 := by omega
  unfold MO_act_46
  have hfd := fun x y => zh_placed (R := zR r m e v) hn x y
  simp (decide := true) only [zz_nm_e, ↓reduceIte, MO_push_rf hm hf, MO_pop_rf hm hf, MO_read_r hm, za_read_f hf, MO_write_r hm hk1, za_write_f hf, zz_bd_s, hfd]
  exact ⟨_, zz_sg r 5, by rw [zz_sp_self]⟩
theorem zJ_25 {t : Nat} {fi fr : Int32} {r : zz_S} {m : zM} {e n : Nat} {v : Nat → Int32} (ht : t < 6) (h3 : zz_sg r 3 = nI t) (hm : zm_ok m) (hk : zmk m + 5 ≤ 40) (hf : ¬ zmf m = 0) (hn : n < 256) (hg : ∃ g, g < 16 ∧ zz_sg r 8 = nI g) : ∃ b u, MO_act_46 fi 25 fr (nI n) (zR r m e v) = some (b, zR (zz_sp r 5 u) m e v) := by
  have hk1 : zmk m < 40 := by omega
  unfold MO_act_46
  obtain ⟨g, hg1, hg2⟩ := hg
  have hc : MO_call_f (((32 : Int32) * zz_sg (zR r m e v) 8 + (2 : Int32) * (nI n &&& (15 : Int32))) + (1 : Int32)) (zR r m e v) = some ((), zR r m e v) := by
    refine MO_call_J ht h3 hm hk hf ⟨32 * g + 2 * (n % 16) + 1, by omega, ?_⟩
    rw [zR_sg8, hg2, zi_15, show (32 : Int32) = nI 32 from by decide, show (2 : Int32) = nI 2 from by decide, zi_mul, zi_mul, nI_add, nI_1]
  simp (decide := true) only [zz_nm_e, ↓reduceIte, hc, zz_bd_s]
  exact ⟨_, zz_sg r 5, by rw [zz_sp_self]⟩
theorem zJ_26 {t : Nat} {fi fr : Int32} {r : zz_S} {m : zM} {e n : Nat} {v : Nat → Int32} (ht : t < 6) (h3 : zz_sg r 3 = nI t) (hm : zm_ok m) (hk : zmk m + 5 ≤ 40) (hf : ¬ zmf m = 0) (hn : n < 256) (hg : ∃ g, g < 16 ∧ zz_sg r 8 = nI g) : ∃ b u, MO_act_46 fi 26 fr (nI n) (zR r m e v) = some (b, zR (zz_sp r 5 u) m e v) := by
  have hk1 : zmk m < 40 := by omega
  unfold MO_act_46
  have hc := MO_call_J (e := e) (v := v) ht h3 hm hk hf (b := 0) ⟨0, by decide, nI_0.symm⟩
  simp (decide := true) only [zz_nm_e, ↓reduceIte, MO_push_rf hm hf, MO_pop_rf hm hf, MO_read_r hm, za_read_f hf, MO_write_r hm hk1, za_write_f hf, zz_bd_s, hc]
  exact ⟨_, zz_sg r 5, by rw [zz_sp_self]⟩
theorem zJ_29 {t : Nat} {fi fr : Int32} {r : zz_S} {m : zM} {e n : Nat} {v : Nat → Int32} (ht : t < 6) (h3 : zz_sg r 3 = nI t) (hm : zm_ok m) (hk : zmk m + 5 ≤ 40) (hf : ¬ zmf m = 0) (hn : n < 256) (hg : ∃ g, g < 16 ∧ zz_sg r 8 = nI g) : ∃ b u, MO_act_46 fi 29 fr (nI n) (zR r m e v) = some (b, zR (zz_sp r 5 u) m e v) := by
  have hk1 : zmk m < 40 := by omega
  unfold MO_act_46
  have hc : MO_take_f (nI n &&& (7 : Int32)) (zR r m e v) = some ((za_take (n % 8) m).1, zR r (za_take (n % 8) m).2 e v) := by rw [zi_7]; exact MO_take_r (by omega) hm (by omega)
  simp (decide := true) only [zz_nm_e, ↓reduceIte, MO_push_rf hm hf, MO_pop_rf hm hf, MO_read_r hm, za_read_f hf, MO_write_r hm hk1, za_write_f hf, zz_bd_s, hc, za_take_f hf]
  exact ⟨_, zz_sg r 5, by rw [zz_sp_self]⟩
