/-! links and procedures -/
def za_mt (p : Int32 × zM) : Int32 × zM := if p.1 = 0 then (0, za_fail 4 p.2) else if (p.1 &&& 3) = 2 then (0, za_fail 4 p.2) else p
def za_meant (x : Int32) (m : zM) : Int32 × zM := za_mt (if (x &&& 3) = 2 then za_read (x - 2) m else (x, m))
theorem za_mt_ok {p : Int32 × zM} (h : zm_ok p.2) : zm_ok (za_mt p).2 := by
  unfold za_mt
  split
  · exact za_fail_ok (by decide) h
  · split
    · exact za_fail_ok (by decide) h
    · exact h
theorem za_mt_k (p : Int32 × zM) : zmk (za_mt p).2 = zmk p.2 := by
  unfold za_mt
  split
  · exact za_fail_k _ _
  · split
    · exact za_fail_k _ _
    · rfl
theorem za_meant_ok {x : Int32} {m : zM} (h : zm_ok m) : zm_ok (za_meant x m).2 := by
  unfold za_meant
  split
  · exact za_mt_ok (za_read_ok _ h)
  · exact za_mt_ok h
theorem za_meant_k (x : Int32) (m : zM) : zmk (za_meant x m).2 = zmk m := by
  unfold za_meant
  split
  · rw [za_mt_k, za_read_k]
  · rw [za_mt_k]
theorem za_mt_w {p : Int32 × zM} (h : ∃ w, w < 65536 ∧ p.1 = nI w) : ∃ w, w < 65536 ∧ (za_mt p).1 = nI w := by
  unfold za_mt
  split
  · exact ⟨0, by decide, nI_0.symm⟩
  · split
    · exact ⟨0, by decide, nI_0.symm⟩
    · exact h
theorem za_meant_w {x : Int32} {m : zM} (h : zm_ok m) (hx : ∃ w, w < 65536 ∧ x = nI w) : ∃ w, w < 65536 ∧ (za_meant x m).1 = nI w := by
  unfold za_meant
  split
  · exact za_mt_w (za_read_w _ h)
  · exact za_mt_w hx
theorem za_mt_f {p : Int32 × zM} (h : ¬ zmf p.2 = 0) : (za_mt p).2 = p.2 := by
  unfold za_mt
  split
  · exact za_fail_f h
  · split
    · exact za_fail_f h
    · rfl
theorem za_meant_f {x : Int32} {m : zM} (h : ¬ zmf m = 0) : (za_meant x m).2 = m := by
  unfold za_meant
  split
  · rw [za_read_f h]; exact za_mt_f h
  · exact za_mt_f h
/-- a link that leads somewhere: not 0, not one that leads on -/
theorem za_meant_g {x : Int32} {m : zM} (h : zmf (za_meant x m).2 = 0) : (za_meant x m).1 ≠ 0 ∧ ¬ ((za_meant x m).1 &&& 3) = 2 := by
  unfold za_meant at h ⊢
  generalize (if (x &&& 3) = 2 then za_read (x - 2) m else (x, m)) = p at h ⊢
  unfold za_mt at h ⊢
  by_cases h1 : p.1 = 0
  · rw [if_pos h1] at h
    exfalso
    by_cases hf : zmf p.2 = 0
    · dsimp only at h; rw [za_fail_0 hf] at h; exact absurd h (by exact (by decide : ¬ (4 : Nat) = 0))
    · dsimp only at h; rw [za_fail_f hf] at h; exact hf h
  · rw [if_neg h1] at h ⊢
    by_cases h2 : (p.1 &&& 3) = 2
    · rw [if_pos h2] at h
      exfalso
      by_cases hf : zmf p.2 = 0
      · dsimp only at h; rw [za_fail_0 hf] at h; exact absurd h (by exact (by decide : ¬ (4 : Nat) = 0))
      · dsimp only at h; rw [za_fail_f hf] at h; exact hf h
    · rw [if_neg h2] at h ⊢
      exact ⟨h1, h2⟩
theorem FR_meant_21_C {c : zz_S} {m : zM} (h : zm_ok m) (x : Int32) : FR_meant_21 x (zpC c m) = some ((za_mt (x, m)).1, zpC c (za_mt (x, m)).2) := by
  have e4 : (4 : Int32) = nI 4 := by decide
  unfold FR_meant_21 za_mt
  simp only [FR_meant_33, FR_isElsewhere_f, ME_fail_C4 h, zz_bd_s, zz_gd_t, zz_nm_e, zz_oc_s, zz_oc_n]
  by_cases h1 : x = 0
  · simp only [eq_true h1, if_true]
  · simp only [h1, if_false]
    by_cases h2 : (x &&& 3) = 2
    · simp only [h2, if_true, zz_bd_s, zz_gd_t, zz_nm_e, zz_oc_s, zz_oc_n]
      rw [if_neg (by decide), ME_fail_C4 h, zz_bd_s]
    · simp only [h2, if_false, zz_bd_s, zz_gd_t, zz_nm_e, zz_oc_s, zz_oc_n, if_true]
theorem FR_meant_C {c : zz_S} {m : zM} (h : zm_ok m) (x : Int32) : FR_meant_f x (zpC c m) = some ((za_meant x m).1, zpC c (za_meant x m).2) := by
  unfold FR_meant_f za_meant
  simp only [FR_isElsewhere_f, zz_bd_s, zz_gd_t, zz_nm_e, zz_oc_s, zz_oc_n]
  by_cases h2 : (x &&& 3) = 2
  · simp only [h2, if_true, zz_bd_s, zz_gd_t, zz_nm_e, zz_oc_s, zz_oc_n, ME_read_C h, FR_meant_21_C (za_read_ok _ h)]
    rw [if_neg (by decide)]
  · simp only [h2, if_false, zz_bd_s, zz_gd_t, zz_nm_e, zz_oc_s, zz_oc_n, if_true, FR_meant_21_C h]
theorem zi_el {w : Nat} (hw : w < 65536) : (zz_rem (nI w) (4 : Int32) = 2) = ((nI w &&& 3) = 2) := by
  have e4 : (4 : Int32) = nI 4 := by decide
  rw [e4, zi_rem (by omega) (by decide), zi_3]
theorem zi_r4 {w : Nat} (hw : w < 65536) : (zz_rem (nI w) (4 : Int32) = 0) = (w % 4 = 0) := by
  have e4 : (4 : Int32) = nI 4 := by decide
  rw [e4, zi_rem (by omega) (by decide)]
  exact propext (zi_z (by omega))
theorem MO_meant_9_M {r : zz_S} {m : zM} (h : zm_ok m) {x : Int32} (hx : ∃ w, w < 65536 ∧ x = nI w) (hx0 : zmf m = 0 → x ≠ 0) : ∃ v, MO_meant_9 x (zpM r m) = some (v, zpM r (za_meant x m).2) ∧ (zmf (za_meant x m).2 = 0 → v = (za_meant x m).1) := by
  have e4 : (4 : Int32) = nI 4 := by decide
  obtain ⟨w, hw, rfl⟩ := hx
  unfold MO_meant_9
  simp only [zpM_sg2, zm_f2 h]
  by_cases hf : zmf m = 0
  · simp only [hf, not_true, if_false, zi_el hw]
    unfold za_meant
    by_cases h2 : (nI w &&& 3) = 2
    · simp only [h2, if_true, MO_read_M h, zz_bd_s, zz_gd_t, zz_nm_e, zz_oc_s, zz_oc_n]
      have h1 := za_read_ok (nI w - 2) h
      obtain ⟨w1, hw1, e1⟩ := za_read_w (nI w - 2) h
      generalize za_read (nI w - 2) m = p at h1 e1 ⊢
      obtain ⟨v, m1⟩ := p
      dsimp only at h1 e1 ⊢
      subst e1
      simp only [zpM_sg2, zm_f0 h1, zi_el hw1, MO_meant_51, MO_wrong_M4 h1, zz_bd_s, zz_gd_t, zz_nm_e, zz_oc_s, zz_oc_n]
      unfold za_mt
      by_cases hf1 : zmf m1 = 0
      · simp only [hf1, if_true]
        by_cases h3 : (nI w1 &&& 3) = 2
        · refine ⟨nI w1, ?_, ?_⟩
          · simp only [h3, if_true]
            rw [show (if nI w1 = 0 then ((0 : Int32), za_fail 4 m1) else (0, za_fail 4 m1)) = (0, za_fail 4 m1) from by split <;> rfl]
          · intro hz
            exfalso
            simp only [h3, if_true] at hz
            rw [show (if nI w1 = 0 then ((0 : Int32), za_fail 4 m1) else (0, za_fail 4 m1)) = (0, za_fail 4 m1) from by split <;> rfl] at hz
            dsimp only at hz
            rw [za_fail_0 hf1] at hz
            exact absurd hz (by exact (by decide : ¬ (4 : Nat) = 0))
        · simp only [h3, if_false]
          by_cases h4 : nI w1 = 0
          · refine ⟨nI w1, by simp only [eq_true h4, if_true], ?_⟩
            intro hz
            rw [h4, if_pos rfl]
          · exact ⟨nI w1, by simp only [h4, if_false], fun _ => by simp only [h4, if_false]⟩
      · have hh : ∀ p : Int32 × zM, p.2 = za_fail 4 m1 ∨ p.2 = m1 → p.2 = m1 := fun p hp => hp.elim (fun q => by rw [q, za_fail_f hf1]) id
        refine ⟨nI w1, ?_, fun hz => ?_⟩
        · simp only [hf1, if_false]
          rw [za_fail_f hf1]
          split
          · rfl
          · split <;> rfl
        · exfalso
          rw [za_fail_f hf1] at hz
          apply hf1
          revert hz
          split
          · exact id
          · split <;> exact id
    · simp only [h2, if_false]
      refine ⟨nI w, ?_, fun _ => ?_⟩
      · unfold za_mt
        simp only [h2, if_false, hx0 hf]
      · unfold za_mt
        simp only [h2, if_false, hx0 hf]
  · refine ⟨nI w, by simp only [hf, not_false_eq_true, if_true, za_meant_f hf], fun hz => absurd (za_meant_f hf ▸ hz) hf⟩
theorem MO_meant_M {r : zz_S} {m : zM} (h : zm_ok m) {x : Int32} (hx : ∃ w, w < 65536 ∧ x = nI w) : ∃ v, MO_meant_f x (zpM r m) = some (v, zpM r (za_meant x m).2) ∧ (zmf (za_meant x m).2 = 0 → v = (za_meant x m).1) := by
  have e4 : (4 : Int32) = nI 4 := by decide
  unfold MO_meant_f
  by_cases h0 : x = 0
  · rw [if_pos h0, MO_wrong_M4 h, zz_bd_s]
    have hm : (za_meant x m).2 = za_fail 4 m := by
      unfold za_meant
      rw [h0, if_neg (show ¬ ((0 : Int32) &&& 3) = 2 by decide)]
      unfold za_mt
      rw [if_pos rfl]
    have hf : ¬ zmf (za_fail 4 m) = 0 := by
      by_cases hf : zmf m = 0
      · rw [za_fail_0 hf]; exact (by decide : ¬ (4 : Nat) = 0)
      · rw [za_fail_f hf]; exact hf
    obtain ⟨v, e, -⟩ := MO_meant_9_M (r := r) (za_fail_ok (e := 4) (by decide) h) hx (fun z => absurd z hf)
    refine ⟨v, ?_, fun z => absurd (hm ▸ z) hf⟩
    rw [e, hm, za_meant_f hf]
  · rw [if_neg h0]
    exact MO_meant_9_M h hx (fun _ => h0)
def za_open (g i : Int32) (from_ : Int32) (m : zM) : Int32 × zM :=
  let r1 := za_read (32 + g) m
  let r2 := za_read r1.1 r1.2
  let r3 := za_read (r2.1 + i) r2.2
  let r4 := za_byte r2.1 r3.1 r3.2
  let r5 := za_take (r4.1 &&& 7).toNatClampNeg r4.2
  (r5.1, za_write (r5.1 + 2) (r3.1 + 1) (za_write (r5.1 + 1) g (za_write r5.1 from_ r5.2)))
theorem za_open_ok {g i f : Int32} {m : zM} (h : zm_ok m) : zm_ok (za_open g i f m).2 := by
  unfold za_open
  dsimp only
  exact za_write_ok _ _ (za_write_ok _ _ (za_write_ok _ _ (za_take_ok (za_byte_ok _ _ (za_read_ok _ (za_read_ok _ (za_read_ok _ h)))))))
theorem za_open_w {g i f : Int32} {m : zM} (h : zm_ok m) : ∃ w, w < 65536 ∧ (za_open g i f m).1 = nI w := by
  unfold za_open
  dsimp only
  exact za_take_w (za_byte_ok _ _ (za_read_ok _ (za_read_ok _ (za_read_ok _ h))))
theorem za_open_k (g i f : Int32) (m : zM) : zmk (za_open g i f m).2 ≤ zmk m + 5 := by
  unfold za_open
  dsimp only
  generalize h1 : za_read (32 + g) m = r1
  generalize h2 : za_read r1.1 r1.2 = r2
  generalize h3 : za_read (r2.1 + i) r2.2 = r3
  generalize h4 : za_byte r2.1 r3.1 r3.2 = r4
  generalize h5 : za_take (r4.1 &&& 7).toNatClampNeg r4.2 = r5
  have k1 := za_read_k (32 + g) m; rw [h1] at k1
  have k2 := za_read_k r1.1 r1.2; rw [h2] at k2
  have k3 := za_read_k (r2.1 + i) r2.2; rw [h3] at k3
  have k4 := za_byte_k r2.1 r3.1 r3.2; rw [h4] at k4
  have k5 := za_take_k (r4.1 &&& 7).toNatClampNeg r4.2; rw [h5] at k5
  have k6 := za_write_k r5.1 f r5.2
  have k7 := za_write_k (r5.1 + 1) g (za_write r5.1 f r5.2)
  have k8 := za_write_k (r5.1 + 2) (r3.1 + 1) (za_write (r5.1 + 1) g (za_write r5.1 f r5.2))
  omega
theorem za_open_f {g i f : Int32} {m : zM} (h : ¬ zmf m = 0) : (za_open g i f m).2 = m := by
  unfold za_open
  dsimp only
  rw [za_read_f h]
  dsimp only
  rw [za_read_f h]
  dsimp only
  rw [za_read_f h]
  dsimp only
  rw [za_byte_f h]
  dsimp only
  rw [za_take_f h]
  dsimp only
  rw [za_write_f (x := 0) h, za_write_f (x := 0 + 1) h, za_write_f h]
theorem FR_open_C {c : zz_S} {m : zM} (h : zm_ok m) (h16 : zmk m + 5 ≤ 16) (x f : Int32) : FR_open_f x f (zpC c m) = some ((za_open ((x >>> ((5 : Int32) &&& 31)) &&& 15) ((x >>> ((1 : Int32) &&& 31)) &&& 15) f m).1, zpC c (za_open ((x >>> ((5 : Int32) &&& 31)) &&& 15) ((x >>> ((1 : Int32) &&& 31)) &&& 15) f m).2) := by
  unfold FR_open_f za_open
  dsimp only [zz_nm_e]
  generalize (x >>> ((5 : Int32) &&& 31)) &&& 15 = g
  generalize (x >>> ((1 : Int32) &&& 31)) &&& 15 = i
  rw [ME_read_C h, zz_bd_s]
  have h1 := za_read_ok (32 + g) h
  have k1 := za_read_k (32 + g) m
  generalize za_read (32 + g) m = r1 at h1 k1 ⊢
  rw [ME_read_C h1, zz_bd_s]
  have h2 := za_read_ok r1.1 h1
  have k2 := za_read_k r1.1 r1.2
  generalize za_read r1.1 r1.2 = r2 at h2 k2 ⊢
  rw [ME_read_C h2, zz_bd_s]
  have h3 := za_read_ok (r2.1 + i) h2
  have k3 := za_read_k (r2.1 + i) r2.2
  generalize za_read (r2.1 + i) r2.2 = r3 at h3 k3 ⊢
  rw [FR_byteAt_C h3, zz_bd_s]
  have h4 := za_byte_ok r2.1 r3.1 h3
  have k4 := za_byte_k r2.1 r3.1 r3.2
  obtain ⟨w, hw, e4⟩ := za_byte_w r2.1 r3.1 h3
  generalize za_byte r2.1 r3.1 r3.2 = r4 at h4 k4 e4 ⊢
  have e7 : r4.1 &&& 7 = nI (w % 8) := by rw [e4, zi_7]
  rw [e7, nI_clamp (by omega), FR_take_C (by omega) h4 (by omega), zz_bd_s]
  have h5 := za_take_ok (k := w % 8) h4
  have k5 := za_take_k (w % 8) r4.2
  generalize za_take (w % 8) r4.2 = r5 at h5 k5 ⊢
  simp only [Int32.add_zero]
  rw [ME_write_C h5 (by omega), zz_bd_s]
  have k6 := za_write_k r5.1 f r5.2
  have h6 := za_write_ok r5.1 f h5
  rw [ME_write_C h6 (by omega), zz_bd_s]
  have k7 := za_write_k (r5.1 + 1) g (za_write r5.1 f r5.2)
  rw [ME_write_C (za_write_ok _ _ h6) (by omega)]
  rfl
/-- what a link's end gives: a procedure is opened, a frame is itself -/
def za_to (f : Int32) (p : Int32 × zM) : Int32 × zM := if (p.1 &&& 1) = 0 then p else za_open ((p.1 >>> ((5 : Int32) &&& 31)) &&& 15) ((p.1 >>> ((1 : Int32) &&& 31)) &&& 15) f p.2
def za_called (x f : Int32) (m : zM) : Int32 × zM := za_to f (za_meant x m)
theorem za_to_f {f : Int32} {p : Int32 × zM} (h : ¬ zmf p.2 = 0) : (za_to f p).2 = p.2 := by
  unfold za_to
  split
  · rfl
  · exact za_open_f h
theorem za_to_ok {f : Int32} {p : Int32 × zM} (h : zm_ok p.2) : zm_ok (za_to f p).2 := by
  unfold za_to
  split
  · exact h
  · exact za_open_ok h
theorem za_to_w {f : Int32} {p : Int32 × zM} (h : zm_ok p.2) (hw : ∃ w, w < 65536 ∧ p.1 = nI w) : ∃ w, w < 65536 ∧ (za_to f p).1 = nI w := by
  unfold za_to
  split
  · exact hw
  · exact za_open_w h
theorem za_to_k (f : Int32) (p : Int32 × zM) : zmk (za_to f p).2 ≤ zmk p.2 + 5 := by
  unfold za_to
  split
  · omega
  · exact za_open_k _ _ _ _
theorem za_called_ok {x f : Int32} {m : zM} (h : zm_ok m) : zm_ok (za_called x f m).2 := za_to_ok (za_meant_ok h)
theorem za_called_k (x f : Int32) (m : zM) : zmk (za_called x f m).2 ≤ zmk m + 5 := by
  have := za_to_k f (za_meant x m)
  rw [za_meant_k] at this
  exact this
theorem za_called_w {x f : Int32} {m : zM} (h : zm_ok m) (hx : ∃ w, w < 65536 ∧ x = nI w) : ∃ w, w < 65536 ∧ (za_called x f m).1 = nI w := za_to_w (za_meant_ok h) (za_meant_w h hx)
theorem za_called_f {x f : Int32} {m : zM} (h : ¬ zmf m = 0) : (za_called x f m).2 = m := by
  unfold za_called
  rw [za_to_f (by rw [za_meant_f h]; exact h), za_meant_f h]
