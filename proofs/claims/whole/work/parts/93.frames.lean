/-! bytes, frames, links -/
theorem za_f_read {x : Int32} {m : zM} (h : zmf (za_read x m).2 = 0) : zmf m = 0 := by
  by_cases hf : zmf m = 0
  · exact hf
  · rw [za_read_f hf] at h; exact h
theorem za_f_write {x v : Int32} {m : zM} (h : zmf (za_write x v m) = 0) : zmf m = 0 := by
  by_cases hf : zmf m = 0
  · exact hf
  · rw [za_write_f hf] at h; exact h
def za_byte (x b : Int32) (m : zM) : Int32 × zM :=
  (if (b &&& 1) = 0 then (za_read (x + (b &&& 65535) / 2) m).1 >>> ((8 : Int32) &&& 31) else (za_read (x + (b &&& 65535) / 2) m).1 &&& 255, (za_read (x + (b &&& 65535) / 2) m).2)
theorem za_byte_ok {m : zM} (x b : Int32) (h : zm_ok m) : zm_ok (za_byte x b m).2 := za_read_ok _ h
theorem za_byte_k (x b : Int32) (m : zM) : zmk (za_byte x b m).2 = zmk m := za_read_k _ m
theorem za_byte_f {x b : Int32} {m : zM} (h : ¬ zmf m = 0) : za_byte x b m = (0, m) := by
  unfold za_byte
  rw [za_read_f h]
  have e1 : (0 : Int32) >>> ((8 : Int32) &&& 31) = 0 := by decide
  have e2 : (0 : Int32) &&& 255 = 0 := by decide
  dsimp only
  rw [e1, e2]
  split <;> rfl
theorem za_byte_w {m : zM} (x b : Int32) (h : zm_ok m) : ∃ w, w < 256 ∧ (za_byte x b m).1 = nI w := by
  unfold za_byte
  obtain ⟨w, hw, e⟩ := za_read_w (x + (b &&& 65535) / 2) h
  have e8 : (8 : Int32) = nI 8 := by decide
  dsimp only
  split
  · exact ⟨w / 2 ^ 8, by omega, by rw [e, e8, zi_shr (by omega) (by decide)]⟩
  · exact ⟨w % 256, by omega, by rw [e, zi_255]⟩
theorem FR_byteAt_C {c : zz_S} {m : zM} (h : zm_ok m) (x b : Int32) : FR_byteAt_f x b (zpC c m) = some ((za_byte x b m).1, zpC c (za_byte x b m).2) := by
  simp only [FR_byteAt_f, ME_read_C h, zz_bd_s, zz_gd_t, zz_nm_e, zz_oc_s, zz_oc_n, za_byte]
  split <;> rfl
theorem zi_par {n : Nat} (hn : n < 2 ^ 31) : (zz_rem (nI n) (2 : Int32) = 0) = ((nI n &&& 1) = 0) := by
  have e2 : (2 : Int32) = nI 2 := by decide
  rw [e2, zi_rem hn (by decide), zi_1]
theorem MO_byteAt_M {r : zz_S} {m : zM} (h : zm_ok m) (x : Int32) {n : Nat} (hn : n < 2 ^ 31) : MO_byteAt_f x (nI n) (zpM r m) = some ((za_byte x (nI n) m).1, zpM r (za_byte x (nI n) m).2) := by
  simp only [MO_byteAt_f, MO_low_f, MO_read_M h, zz_bd_s, zz_gd_t, zz_nm_e, zz_oc_s, zz_oc_n, za_byte, zi_par hn]
  split <;> rfl
/-- the first list, from j on, that has a frame: the frame, its class -/
def za_look : Nat → Nat → Int32 → Nat → zM → Int32 × Nat × zM
  | 0, _, f, j, m => (f, j, m)
  | n + 1, k, f, j, m => if f = 0 then za_look n (k + 1) (za_read (nI (16 + k)) m).1 k (za_read (nI (16 + k)) m).2 else (f, j, m)
def za_tk (f : Int32) (j : Nat) (m : zM) : Int32 × zM :=
  if f = 0 then (0, za_fail 3 m) else (f, za_write (f + 3) (nI j) (za_write (nI (16 + j)) (za_read f m).1 (za_read f m).2))
def za_take (k : Nat) (m : zM) : Int32 × zM :=
  za_tk (za_look (8 - k) k 0 k m).1 (za_look (8 - k) k 0 k m).2.1 (za_look (8 - k) k 0 k m).2.2
theorem za_look_ok : ∀ (n k : Nat) (f : Int32) (j : Nat) (m : zM), zm_ok m → zm_ok (za_look n k f j m).2.2
  | 0, _, _, _, _, h => h
  | n + 1, k, f, j, m, h => by
    unfold za_look
    split
    · exact za_look_ok n _ _ _ _ (za_read_ok _ h)
    · exact h
theorem za_look_k : ∀ (n k : Nat) (f : Int32) (j : Nat) (m : zM), zmk (za_look n k f j m).2.2 = zmk m
  | 0, _, _, _, _ => rfl
  | n + 1, k, f, j, m => by
    unfold za_look
    split
    · rw [za_look_k n _ _ _ _, za_read_k]
    · rfl
theorem za_look_j : ∀ (n k : Nat) (f : Int32) (j : Nat) (m : zM), n + k ≤ 8 → j < 8 → (za_look n k f j m).2.1 < 8
  | 0, _, _, _, _, _, h => h
  | n + 1, k, f, j, m, hn, h => by
    unfold za_look
    split
    · exact za_look_j n _ _ _ _ (by omega) (by omega)
    · exact h
theorem za_look_w : ∀ (n k : Nat) (f : Int32) (j : Nat) (m : zM), zm_ok m → (∃ w, w < 65536 ∧ f = nI w) → ∃ w, w < 65536 ∧ (za_look n k f j m).1 = nI w
  | 0, _, _, _, _, _, h => h
  | n + 1, k, f, j, m, hm, h => by
    unfold za_look
    split
    · exact za_look_w n _ _ _ _ (za_read_ok _ hm) (za_read_w _ hm)
    · exact h
theorem za_look_f : ∀ (n k j : Nat) (m : zM), ¬ zmf m = 0 → (za_look n k 0 j m).1 = 0 ∧ (za_look n k 0 j m).2.2 = m
  | 0, _, _, _, _ => ⟨rfl, rfl⟩
  | n + 1, k, j, m, h => by
    unfold za_look
    rw [if_pos rfl, za_read_f h]
    exact za_look_f n (k + 1) k m h
theorem za_tk_ok {f : Int32} {j : Nat} {m : zM} (h : zm_ok m) : zm_ok (za_tk f j m).2 := by
  unfold za_tk
  split
  · exact za_fail_ok (by decide) h
  · exact za_write_ok _ _ (za_write_ok _ _ (za_read_ok _ h))
theorem za_tk_k (f : Int32) (j : Nat) (m : zM) : zmk (za_tk f j m).2 ≤ zmk m + 2 := by
  unfold za_tk
  split
  · dsimp only; rw [za_fail_k]; omega
  · have h1 := za_write_k (f + 3) (nI j) (za_write (nI (16 + j)) (za_read f m).1 (za_read f m).2)
    have h2 := za_write_k (nI (16 + j)) (za_read f m).1 (za_read f m).2
    rw [za_read_k] at h2
    dsimp only
    omega
theorem za_take_ok {k : Nat} {m : zM} (h : zm_ok m) : zm_ok (za_take k m).2 := za_tk_ok (za_look_ok _ _ _ _ _ h)
theorem za_take_k (k : Nat) (m : zM) : zmk (za_take k m).2 ≤ zmk m + 2 := by
  have := za_tk_k (za_look (8 - k) k 0 k m).1 (za_look (8 - k) k 0 k m).2.1 (za_look (8 - k) k 0 k m).2.2
  rw [za_look_k] at this
  exact this
theorem za_take_w {k : Nat} {m : zM} (h : zm_ok m) : ∃ w, w < 65536 ∧ (za_take k m).1 = nI w := by
  unfold za_take za_tk
  split
  · exact ⟨0, by decide, nI_0.symm⟩
  · exact za_look_w _ _ _ _ _ h ⟨0, by decide, nI_0.symm⟩
theorem za_take_f {k : Nat} {m : zM} (h : ¬ zmf m = 0) : za_take k m = (0, m) := by
  unfold za_take za_tk
  obtain ⟨h1, h2⟩ := za_look_f (8 - k) k k m h
  rw [h1, h2, if_pos rfl, za_fail_f h]
theorem FR_take_40_C {c : zz_S} {f : Int32} {j : Nat} {m : zM} (h : zm_ok m) (hk : zmk m + 2 ≤ 16) : FR_take_40 f (nI j) (zpC c m) = some ((za_tk f j m).1, zpC c (za_tk f j m).2) := by
  have e3 : (3 : Int32) = nI 3 := by decide
  have e16 : (16 : Int32) = nI 16 := by decide
  unfold FR_take_40 za_tk
  split
  · rw [e3, ME_fail_C 3 h]; rfl
  · have h1 := za_read_ok f h
    have k1 := za_read_k f m
    have k2 := za_write_k (nI (16 + j)) (za_read f m).1 (za_read f m).2
    simp only [ME_read_C h, zz_bd_s, zz_gd_t, zz_nm_e, zz_oc_s, zz_oc_n, e16, nI_add]
    rw [ME_write_C h1 (by omega)]
    simp only [zz_bd_s, zz_gd_t, zz_nm_e, zz_oc_s, zz_oc_n]
    rw [ME_write_C (za_write_ok _ _ h1) (by omega)]
    rfl
theorem FR_take_7_C {c : zz_S} : ∀ (n F k : Nat) (f : Int32) (j : Nat) (m : zM), n < F → n + k = 8 → zm_ok m → zmk m + 2 ≤ 16 → FR_take_7 F f (nI j) (nI k) (zpC c m) = some ((za_tk (za_look n k f j m).1 (za_look n k f j m).2.1 (za_look n k f j m).2.2).1, zpC c (za_tk (za_look n k f j m).1 (za_look n k f j m).2.1 (za_look n k f j m).2.2).2)
  | 0, F + 1, k, f, j, m, hF, hk, h, h16 => by
    have e8 : (8 : Int32) = nI 8 := by decide
    have : k = 8 := by omega
    subst this
    show FR_take_7b (FR_take_7 F) f (nI j) (nI 8) (zpC c m) = _
    unfold FR_take_7b
    rw [if_pos (by decide), FR_take_40_C h h16]
    rfl
  | n + 1, F + 1, k, f, j, m, hF, hk, h, h16 => by
    have e8 : (8 : Int32) = nI 8 := by decide
    have e16 : (16 : Int32) = nI 16 := by decide
    show FR_take_7b (FR_take_7 F) f (nI j) (nI k) (zpC c m) = _
    unfold FR_take_7b
    rw [if_neg (by rw [e8, nI_leI (by decide) (by omega)]; omega)]
    unfold za_look
    by_cases hf : f = 0
    · rw [if_pos hf, if_pos hf, e16, nI_add, ME_read_C h, zz_bd_s, nI_1]
      exact FR_take_7_C n F (k + 1) _ k _ (by omega) (by omega) (za_read_ok _ h) (by rw [za_read_k]; exact h16)
    · rw [if_neg hf, if_neg hf, FR_take_40_C h h16]
theorem FR_take_C {c : zz_S} {k : Nat} (hk : k < 8) {m : zM} (h : zm_ok m) (h16 : zmk m + 2 ≤ 16) : FR_take_f (nI k) (zpC c m) = some ((za_take k m).1, zpC c (za_take k m).2) :=
  FR_take_7_C (8 - k) 10 k 0 k m (by omega) (by omega) h h16
theorem MO_take_59_M {r : zz_S} {f : Int32} {j : Nat} {m : zM} (h : zm_ok m) (hk : zmk m + 2 ≤ 40) : MO_take_59 (nI j) f (zpM r m) = some (f, zpM r (za_write (f + 3) (nI j) (za_write (nI (16 + j)) (za_read f m).1 (za_read f m).2))) := by
  have e16 : (16 : Int32) = nI 16 := by decide
  have h1 := za_read_ok f h
  have k1 := za_read_k f m
  have k2 := za_write_k (nI (16 + j)) (za_read f m).1 (za_read f m).2
  simp only [MO_take_59, MO_read_M h, zz_bd_s, zz_gd_t, zz_nm_e, zz_oc_s, zz_oc_n, e16, nI_add]
  rw [MO_write_M h1 (by omega)]
  simp only [zz_bd_s, zz_gd_t, zz_nm_e, zz_oc_s, zz_oc_n]
  rw [MO_write_M (za_write_ok _ _ h1) (by omega)]
  rfl
theorem MO_take_59_F {r : zz_S} {f : Int32} {j : Nat} {m : zM} (h : zm_ok m) (hk : zmk m + 2 ≤ 40) (hf : ¬ zmf m = 0) : MO_take_59 (nI j) f (zpM r m) = some (f, zpM r m) := by
  rw [MO_take_59_M h hk, za_read_f hf, za_write_f (x := nI (16 + j)) hf, za_write_f hf]
theorem MO_take_43_M {r : zz_S} {f : Int32} {j : Nat} {m : zM} (h : zm_ok m) (hk : zmk m + 2 ≤ 40) (hw : zmf m = 0 ∨ f = 0) : MO_take_43 (nI j) f (zpM r m) = some ((za_tk f j m).1, zpM r (za_tk f j m).2) := by
  have e3 : (3 : Int32) = nI 3 := by decide
  unfold MO_take_43 za_tk
  simp only [zpM_sg2, zm_f0 h]
  by_cases hf : zmf m = 0
  · rw [if_pos hf]
    by_cases h0 : f = 0
    · rw [if_pos h0, if_pos h0, e3, MO_wrong_M 3 h, zz_bd_s, MO_take_59_F (za_fail_ok (by decide) h) (by rw [za_fail_k]; exact hk) (by rw [za_fail_0 hf]; exact (by decide : ¬ (3 : Nat) = 0)), h0]
    · rw [if_neg h0, if_neg h0, MO_take_59_M h hk]
  · have h0 : f = 0 := hw.resolve_left hf
    rw [if_neg hf, if_pos h0, MO_take_59_F h hk hf, za_fail_f hf, h0]
theorem MO_take_11_M {r : zz_S} : ∀ (n F k : Nat) (f : Int32) (m : zM), n < F → n + k = 7 → zm_ok m → zmk m + 2 ≤ 40 → (zmf m = 0 ∨ f = 0) → MO_take_11 F (nI k) f (zpM r m) = some ((za_tk (za_look n (k + 1) f k m).1 (za_look n (k + 1) f k m).2.1 (za_look n (k + 1) f k m).2.2).1, zpM r (za_tk (za_look n (k + 1) f k m).1 (za_look n (k + 1) f k m).2.1 (za_look n (k + 1) f k m).2.2).2)
  | 0, F + 1, k, f, m, hF, hk, h, h40, hw => by
    have : k = 7 := by omega
    subst this
    show MO_take_11b (MO_take_11 F) (nI 7) f (zpM r m) = _
    unfold MO_take_11b
    simp only [zpM_sg2, zm_f0 h]
    rw [if_pos (show (7 : Int32) ≤ nI 7 by decide), MO_take_43_M h h40 hw]
    split
    · split <;> rfl
    · rfl
  | n + 1, F + 1, k, f, m, hF, hk, h, h40, hw => by
    have e7 : (7 : Int32) = nI 7 := by decide
    have e16 : (16 : Int32) = nI 16 := by decide
    show MO_take_11b (MO_take_11 F) (nI k) f (zpM r m) = _
    unfold MO_take_11b
    simp only [zpM_sg2, zm_f0 h]
    rw [if_neg (show ¬ (7 : Int32) ≤ nI k by rw [e7, nI_leI (by decide) (by omega)]; omega), MO_take_43_M h h40 hw]
    by_cases hf : zmf m = 0
    · rw [if_pos hf]
      unfold za_look
      by_cases h0 : f = 0
      · rw [if_pos h0, if_pos h0, nI_1, e16, nI_add, MO_read_M h, zz_bd_s]
        refine MO_take_11_M n F (k + 1) _ _ (by omega) (by omega) (za_read_ok _ h) (by rw [za_read_k]; exact h40) ?_
        by_cases hg : zmf (za_read (nI (16 + (k + 1))) m).2 = 0
        · exact Or.inl hg
        · right
          unfold za_read at hg ⊢
          rw [if_pos hf] at hg ⊢
          split
          · rfl
          · rename_i h9
            rw [if_neg h9] at hg
            exact absurd hf hg
      · rw [if_neg h0, if_neg h0]
    · have h0 : f = 0 := hw.resolve_left hf
      subst h0
      obtain ⟨h1, h2⟩ := za_look_f (n + 1) (k + 1) k m hf
      rw [if_neg hf, h1, h2]
      unfold za_tk
      rw [if_pos rfl, if_pos rfl]
theorem za_read_z {x : Int32} {m : zM} : zmf (za_read x m).2 = 0 ∨ (za_read x m).1 = 0 := by
  unfold za_read
  by_cases hf : zmf m = 0
  · rw [if_pos hf]
    split
    · exact Or.inr rfl
    · exact Or.inl hf
  · rw [if_neg hf]; exact Or.inr rfl
theorem MO_take_M {r : zz_S} {k : Nat} (hk : k < 8) {m : zM} (h : zm_ok m) (h40 : zmk m + 2 ≤ 40) : MO_take_f (nI k) (zpM r m) = some ((za_take k m).1, zpM r (za_take k m).2) := by
  have e16 : (16 : Int32) = nI 16 := by decide
  unfold MO_take_f
  rw [e16, nI_add, MO_read_M h, zz_bd_s, MO_take_11_M (7 - k) 10 k _ _ (by omega) (by omega) (za_read_ok _ h) (by rw [za_read_k]; exact h40) za_read_z]
  unfold za_take
  rw [show 8 - k = (7 - k) + 1 from by omega]
  rfl
def za_give (x : Int32) (m : zM) : zM :=
  za_write (16 + ((za_read (x + 3) m).1 &&& 7)) x (za_write x (za_read (16 + ((za_read (x + 3) m).1 &&& 7)) (za_read (x + 3) m).2).1 (za_read (16 + ((za_read (x + 3) m).1 &&& 7)) (za_read (x + 3) m).2).2)
theorem za_give_ok {x : Int32} {m : zM} (h : zm_ok m) : zm_ok (za_give x m) := za_write_ok _ _ (za_write_ok _ _ (za_read_ok _ (za_read_ok _ h)))
theorem za_give_k (x : Int32) (m : zM) : zmk (za_give x m) ≤ zmk m + 2 := by
  have h1 := za_write_k (16 + ((za_read (x + 3) m).1 &&& 7)) x (za_write x (za_read (16 + ((za_read (x + 3) m).1 &&& 7)) (za_read (x + 3) m).2).1 (za_read (16 + ((za_read (x + 3) m).1 &&& 7)) (za_read (x + 3) m).2).2)
  have h2 := za_write_k x (za_read (16 + ((za_read (x + 3) m).1 &&& 7)) (za_read (x + 3) m).2).1 (za_read (16 + ((za_read (x + 3) m).1 &&& 7)) (za_read (x + 3) m).2).2
  rw [za_read_k, za_read_k] at h2
  unfold za_give
  omega
theorem za_give_f {x : Int32} {m : zM} (h : ¬ zmf m = 0) : za_give x m = m := by
  unfold za_give
  rw [za_read_f h]
  dsimp only
  rw [za_read_f h]
  dsimp only
  rw [za_write_f (x := x) h, za_write_f h]
theorem FR_giveBack_C {c : zz_S} {m : zM} (h : zm_ok m) (h16 : zmk m + 2 ≤ 16) (x : Int32) : FR_giveBack_f x (zpC c m) = some ((), zpC c (za_give x m)) := by
  unfold FR_giveBack_f za_give
  have h1 := za_read_ok (x + 3) h
  have h2 := za_read_ok (16 + ((za_read (x + 3) m).1 &&& 7)) h1
  have k2 := za_write_k x (za_read (16 + ((za_read (x + 3) m).1 &&& 7)) (za_read (x + 3) m).2).1 (za_read (16 + ((za_read (x + 3) m).1 &&& 7)) (za_read (x + 3) m).2).2
  rw [za_read_k, za_read_k] at k2
  rw [ME_read_C h, zz_bd_s, zz_nm_e, ME_read_C h1, zz_bd_s, ME_write_C h2 (by rw [za_read_k, za_read_k]; omega), zz_bd_s, ME_write_C (za_write_ok _ _ h2) (by omega)]
  rfl
theorem MO_give_M {r : zz_S} {m : zM} (h : zm_ok m) (h40 : zmk m + 2 ≤ 40) (x : Int32) : MO_give_f x (zpM r m) = some ((), zpM r (za_give x m)) := by
  unfold MO_give_f za_give
  have h1 := za_read_ok (x + 3) h
  have h2 := za_read_ok (16 + ((za_read (x + 3) m).1 &&& 7)) h1
  have k2 := za_write_k x (za_read (16 + ((za_read (x + 3) m).1 &&& 7)) (za_read (x + 3) m).2).1 (za_read (16 + ((za_read (x + 3) m).1 &&& 7)) (za_read (x + 3) m).2).2
  rw [za_read_k, za_read_k] at k2
  rw [MO_read_M h, zz_bd_s, zz_nm_e, MO_read_M h1, zz_bd_s, MO_write_M h2 (by rw [za_read_k, za_read_k]; omega), zz_bd_s, MO_write_M (za_write_ok _ _ h2) (by omega)]
  rfl
