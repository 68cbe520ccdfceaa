/-! jumps, fields, arithmetic -/
theorem zL_R0t {n D : Nat} {c r C R : zz_S} (h : zL n D c r C R) (hf : zF C) : (zz_sg R 2 = 0) = True := (zL_R0 h).trans (eq_true hf)
theorem zL_R0f {n D : Nat} {c r C R : zz_S} (h : zL n D c r C R) (hf : ¬ zF C) : (zz_sg R 2 = 0) = False := (zL_R0 h).trans (eq_false hf)
theorem zL_R1t {n D : Nat} {c r C R : zz_S} (h : zL n D c r C R) (hf : zF C) : (zz_sg R 2 ≤ 0) = True := (zL_R1 h).trans (eq_true hf)
theorem zL_R1f {n D : Nat} {c r C R : zz_S} (h : zL n D c r C R) (hf : ¬ zF C) : (zz_sg R 2 ≤ 0) = False := (zL_R1 h).trans (eq_false hf)
theorem zL_R2t {n D : Nat} {c r C R : zz_S} (h : zL n D c r C R) (hf : zF C) : (0 < zz_sg R 2) = False := (zL_R2 h).trans (eq_false (fun z => z hf))
theorem zL_R2f {n D : Nat} {c r C R : zz_S} (h : zL n D c r C R) (hf : ¬ zF C) : (0 < zz_sg R 2) = True := (zL_R2 h).trans (eq_true hf)
theorem zi_idem (x : Int32) : x &&& 65535 &&& 65535 = x &&& 65535 := by rw [zi_16 x, zi_16', Nat.mod_mod]
theorem zQ1_jump {n' D : Nat} {c r C R : zz_S} (h : zL n' D c r C R) (hn : n' ≤ 7) (hD : D ≤ 9) (v u : Int32) (e : zF C → v &&& 65535 = u &&& 65535) : zQ1 c r () (zz_sp C 19 v) 1 (zz_sp R 5 u) :=
  ⟨rfl, v, u, zL_up (zL_rsp (zL_sp h 19 v rfl rfl rfl) 5 u rfl rfl rfl) hn hD (by decide), e⟩
theorem zL_nF {n D : Nat} {c r C R : zz_S} (h : zL n D c r C R) (k : Nat) (v : Int32) : zF (zz_sp C (k + 2) v) = zF C := rfl
theorem zL_pushJ {n D : Nat} {c r C R : zz_S} (h : zL n D c r C R) (hD : D ≤ 8) (hf : ¬ zF C) (a : Int32) : ∃ C', WS_push_f a C = some ((), C') ∧ zL n (D + 1) c r C' R ∧ ¬ zF C' := by
  obtain ⟨m, d, w, e, v, rfl, rfl, hm, hk, hd, he, h9, hs⟩ := h
  rw [zF_iff hm] at hf
  exact ⟨_, WS_push_e (by omega) a, ⟨m, _, _, e, v, rfl, rfl, hm, hk, by omega, he, by omega, fun z => absurd z hf⟩, by rw [zF_iff hm]; exact hf⟩
theorem zL_fail {n D : Nat} {c r C R : zz_S} (h : zL n D c r C R) {e : Nat} (he16 : e < 16) (he0 : e ≠ 0) : zr (ME_fail_f (nI e) C) (MO_wrong_f (nI e) R) (fun _ C' _ R' => zL n D c r C' R' ∧ ¬ zF C') := by
  obtain ⟨m, d, w, e', v, rfl, rfl, hm, hk, hd, he, h9, hs⟩ := h
  have hm' := za_fail_ok he16 hm
  have hf' : ¬ zmf (za_fail e m) = 0 := by
    by_cases hf : zmf m = 0
    · rw [za_fail_0 hf]; exact he0
    · rw [za_fail_f hf]; exact hf
  have e1 : ME_fail_f (nI e) (zC c m d w) = some ((), zC c (za_fail e m) d w) := ME_fail_C e hm
  have e2 : MO_wrong_f (nI e) (zR r m e' v) = some ((), zR r (za_fail e m) e' v) := MO_wrong_M e hm
  rw [e1, e2]
  exact zr_ret ⟨⟨_, d, w, e', v, rfl, rfl, hm', by rw [za_fail_k]; exact hk, hd, he, h9, fun z => absurd z hf'⟩, by rw [zF_iff hm']; exact hf'⟩
theorem zL_failJ {n D : Nat} {c r C R : zz_S} (h : zL n D c r C R) (hf : ¬ zF C) (e : Nat) : ME_fail_f (nI e) C = some ((), C) := by
  obtain ⟨m, d, w, e', v, rfl, rfl, hm, hk, hd, he, h9, hs⟩ := h
  rw [zF_iff hm] at hf
  have e1 : ME_fail_f (nI e) (zC c m d w) = some ((), zC c (za_fail e m) d w) := ME_fail_C e hm
  rw [e1, za_fail_f hf]
theorem zL_wrongJ {n D : Nat} {c r C R : zz_S} (h : zL n D c r C R) (hf : ¬ zF C) (e : Nat) : MO_wrong_f (nI e) R = some ((), R) := by
  obtain ⟨m, d, w, e', v, rfl, rfl, hm, hk, hd, he, h9, hs⟩ := h
  rw [zF_iff hm] at hf
  have e1 : MO_wrong_f (nI e) (zR r m e' v) = some ((), zR r (za_fail e m) e' v) := MO_wrong_M e hm
  rw [e1, za_fail_f hf]
/-- a word's number with its sign -/
theorem zi_sgn {w : Nat} (hw : w < 65536) : (nI w).toInt16.toInt32 = if nI w < 32768 then nI w else nI w - 65536 := by
  have e1 : (32768 : Int32) = nI 32768 := by decide
  have e2 : (65536 : Int32).toInt = 65536 := by decide
  apply Int32.toInt_inj.mp
  have h1 : ((nI w).toInt16.toInt32).toInt = (w : Int).bmod (2 ^ 16) := by
    rw [Int16.toInt_toInt32, Int32.toInt_toInt16, nI_toInt (by omega)]
  rw [h1, e1]
  by_cases h : w < 32768
  · rw [if_pos (by rw [nI_ltI (by omega) (by decide)]; exact h), nI_toInt (by omega)]
    apply Int.bmod_eq_of_le <;> omega
  · rw [if_neg (by rw [nI_ltI (by omega) (by decide)]; exact h), Int32.toInt_sub, nI_toInt (by omega), e2]
    rw [show ((w : Int) - 65536).bmod (2 ^ 32) = (w : Int) - 65536 from by apply Int.bmod_eq_of_le <;> omega]
    unfold Int.bmod
    dsimp only
    split <;> omega
theorem zo_sgn {x : Int32} (hx : zWd x) (R : zz_S) : MO_signed_f x R = some (x.toInt16.toInt32, R) := by
  obtain ⟨w, hw, rfl⟩ := hx
  unfold MO_signed_f
  rw [zi_sgn hw]
  split <;> rfl
theorem zo_20 {fr gl : Int32} {gn fi nx n : Nat} {c r C R : zz_S} (h : zL 0 8 c r C R) (hs : zS fr gl gn fi nx n c r) (h17 : zz_sg c 17 = 20) : zr (PR_arrange_f C) (MO_act_46 (nI fi) 20 fr (nI n) R) (zQ1 c r) := by
  have hs0 := hs
  obtain ⟨h3, h15, h7, h14, h8, h16, h18, h19, h5, hfr, hgl, hgn, hfi, hn⟩ := hs
  unfold PR_arrange_f MO_act_46
  simp (decide := true) only [zz_nm_e, zL_c17 h, h17, zL_c18 h, h18, zL_c3 h, h3, zL_c15 h, h15, zL_r7 h, h7, ↓reduceIte]
  unfold IN_jump_f MO_low_f
  simp only [zz_nm_e, zz_bd_s, zL_c16 h, h16, zL_c18 h, h18]
  exact zr_ret (zQ1_jump h (by decide) (by decide) _ _ (fun _ => (zi_idem _).symm))
theorem zo_21 {fr gl : Int32} {gn fi nx n : Nat} {c r C R : zz_S} (h : zL 0 8 c r C R) (hs : zS fr gl gn fi nx n c r) (h17 : zz_sg c 17 = 21) : zr (PR_arrange_f C) (MO_act_46 (nI fi) 21 fr (nI n) R) (zQ1 c r) := by
  have hs0 := hs
  obtain ⟨h3, h15, h7, h14, h8, h16, h18, h19, h5, hfr, hgl, hgn, hfi, hn⟩ := hs
  unfold PR_arrange_f MO_act_46
  simp (decide := true) only [zz_nm_e, zL_c17 h, h17, zL_c18 h, h18, zL_c3 h, h3, zL_c15 h, h15, zL_r7 h, h7, ↓reduceIte]
  refine zr_bd (zL_pop h) (fun x C1 y R1 q => ?_)
  by_cases hf : zF C1
  · obtain ⟨-, hxy⟩ := q.2.2 hf
    subst hxy
    simp only [zL_R0t q.1 hf, if_true]
    by_cases hx : x = 0
    · simp only [hx, if_true, IN_jump_f, MO_low_f, zz_nm_e, zz_bd_s, zL_c16 q.1, h16, zL_c18 q.1, h18, MO_act_407]
      exact zr_ret (zQ1_jump q.1 (by decide) (by decide) _ _ (fun _ => (zi_idem _).symm))
    · simp only [hx, if_false, MO_act_403, MO_act_407, zz_nm_e, zz_sp_self]
      exact zr_ret (zQ1_of hs0 q.1 (by decide) (by decide))
  · simp only [zL_R0f q.1 hf, if_false, MO_act_403, MO_act_407, zz_nm_e, IN_jump_f, zz_bd_s]
    rw [show (if y = 0 then (some ((1 : Int32), zz_sp R1 5 (zz_sg R1 5))) else some (1, zz_sp R1 5 (zz_sg R1 5))) = some (1, zz_sp R1 5 (zz_sg R1 5)) from by split <;> rfl]
    split
    · exact zr_ret (zQ1_jump q.1 (by decide) (by decide) _ _ (fun z => absurd z hf))
    · rw [zz_sp_self]
      exact zr_ret (zQ1_of hs0 q.1 (by decide) (by decide))
theorem zo_22 {fr gl : Int32} {gn fi nx n : Nat} {c r C R : zz_S} (h : zL 0 8 c r C R) (hs : zS fr gl gn fi nx n c r) (h17 : zz_sg c 17 = 22) : zr (PR_arrange_f C) (MO_act_46 (nI fi) 22 fr (nI n) R) (zQ1 c r) := by
  have hs0 := hs
  obtain ⟨h3, h15, h7, h14, h8, h16, h18, h19, h5, hfr, hgl, hgn, hfi, hn⟩ := hs
  unfold PR_arrange_f MO_act_46
  simp (decide := true) only [zz_nm_e, zL_c17 h, h17, zL_c18 h, h18, zL_c3 h, h3, zL_c15 h, h15, zL_r7 h, h7, ↓reduceIte]
  refine zr_bd (zL_pop h) (fun x C1 y R1 q => ?_)
  rw [zo_sgn q.2.1, zz_bd_s]
  refine zr_bd (zL_pop q.1) (fun x2 C2 y2 R2 q2 => ?_)
  rw [zo_sgn q2.2.1, zz_bd_s]
  by_cases hf : zF C2
  · obtain ⟨hf1, hxy2⟩ := q2.2.2 hf
    obtain ⟨-, hxy⟩ := q.2.2 hf1
    subst hxy hxy2
    simp only [zL_R0t q2.1 hf, if_true]
    by_cases hx : x.toInt16.toInt32 ≤ x2.toInt16.toInt32
    · simp only [hx, if_true, MO_act_453, MO_act_457, zz_nm_e, zz_sp_self]
      exact zr_ret (zQ1_of hs0 q2.1 (by decide) (by decide))
    · simp only [hx, if_false, IN_jump_f, MO_low_f, zz_nm_e, zz_bd_s, zL_c16 q2.1, h16, zL_c18 q2.1, h18, MO_act_457]
      exact zr_ret (zQ1_jump q2.1 (by decide) (by decide) _ _ (fun _ => (zi_idem _).symm))
  · simp only [zL_R0f q2.1 hf, if_false, MO_act_453, MO_act_457, zz_nm_e, IN_jump_f, zz_bd_s]
    rw [show (if y.toInt16.toInt32 ≤ y2.toInt16.toInt32 then (some ((1 : Int32), zz_sp R2 5 (zz_sg R2 5))) else some (1, zz_sp R2 5 (zz_sg R2 5))) = some (1, zz_sp R2 5 (zz_sg R2 5)) from by split <;> rfl]
    split
    · rw [zz_sp_self]
      exact zr_ret (zQ1_of hs0 q2.1 (by decide) (by decide))
    · exact zr_ret (zQ1_jump q2.1 (by decide) (by decide) _ _ (fun z => absurd z hf))
theorem zz_bd_a {α β γ σ : Type} (x : Option (α × σ)) (f : α → σ → Option (β × σ)) (g : β → σ → Option (γ × σ)) : zz_bd (zz_bd x f) g = zz_bd x (fun a s => zz_bd (f a s) g) := by
  cases x with
  | none => rfl
  | some p => rfl
theorem zz_bo_1 : zz_bo 1 = true := by decide
theorem zz_bo_0 : zz_bo 0 = true := by decide
theorem zo_shift (a b : Int32) (C : zz_S) : ∃ v, PR_shifted_f a b C = some (v, C) := by
  unfold PR_shifted_f
  split
  · exact ⟨_, rfl⟩
  · split
    · split <;> exact ⟨_, rfl⟩
    · exact ⟨_, rfl⟩
theorem zo_comb (k a b : Int32) (C : zz_S) : ∃ v, PR_combined_f k a b C = some (v, C) := by
  unfold PR_combined_f
  obtain ⟨v, e⟩ := zo_shift a b.toInt16.toInt32 C
  rw [e]
  split
  · exact ⟨_, rfl⟩
  · split
    · exact ⟨_, rfl⟩
    · split
      · exact ⟨_, rfl⟩
      · split
        · split
          · exact ⟨_, rfl⟩
          · rename_i h
            rw [show (b != 0) = true from by simp [h]]
            exact ⟨_, rfl⟩
        · split
          · exact ⟨_, rfl⟩
          · split
            · exact ⟨_, rfl⟩
            · split
              · exact ⟨_, rfl⟩
              · exact ⟨_, rfl⟩
/-- behind a fault the component only fills its stack -/
theorem zo_combJ {n D : Nat} {c r C R : zz_S} (h : zL n D c r C R) (hD : D ≤ 8) (hf : ¬ zF C) (x y : Int32) : ∃ C', PR_combine_44 x y C = some ((), C') ∧ zL n (D + 1) c r C' R ∧ ¬ zF C' := by
  unfold PR_combine_44
  obtain ⟨v, e⟩ := zo_comb (zz_sg C 17) y x C
  obtain ⟨C', e', l, f⟩ := zL_pushJ h hD hf v
  rw [e, zz_bd_s, e', zz_bd_s]
  exact ⟨C', rfl, l, f⟩
theorem zo_sh {x s : Int32} (C R : zz_S) : ∃ v, PR_shifted_f x s C = some (v, C) ∧ (if (15 : Int32) < s then (MO_two_181 R) else (if (-15 : Int32) ≤ s then (if s < 0 then (MO_two_202 (x >>> ((-s) &&& 31)) R) else (MO_two_202 (x <<< (s &&& 31)) R)) else (MO_two_181 R))) = MO_two_202 v R := by
  have h16 : (-16 : Int32).toInt = -16 := by decide
  have h15 : (-15 : Int32).toInt = -15 := by decide
  have g16 : (16 : Int32).toInt = 16 := by decide
  have g15 : (15 : Int32).toInt = 15 := by decide
  unfold PR_shifted_f MO_two_181
  by_cases h1 : s ≤ -16
  · rw [if_pos h1]
    rw [Int32.le_iff_toInt_le] at h1
    rw [if_neg (by rw [Int32.lt_iff_toInt_lt]; omega), if_neg (by rw [Int32.le_iff_toInt_le]; omega)]
    exact ⟨_, rfl, rfl⟩
  · rw [if_neg h1]
    rw [Int32.le_iff_toInt_le] at h1
    by_cases h2 : s < 16
    · rw [if_pos h2]
      rw [Int32.lt_iff_toInt_lt] at h2
      rw [if_neg (show ¬ (15 : Int32) < s by rw [Int32.lt_iff_toInt_lt]; omega), if_pos (show (-15 : Int32) ≤ s by rw [Int32.le_iff_toInt_le]; omega)]
      by_cases h3 : s < 0
      · rw [if_pos h3, if_pos h3]; exact ⟨_, rfl, rfl⟩
      · rw [if_neg h3, if_neg h3]; exact ⟨_, rfl, rfl⟩
    · rw [if_neg h2]
      rw [Int32.lt_iff_toInt_lt] at h2
      rw [if_pos (show (15 : Int32) < s by rw [Int32.lt_iff_toInt_lt]; omega)]
      exact ⟨_, rfl, rfl⟩
theorem zo_9 {fr gl : Int32} {gn fi nx n : Nat} {c r C R : zz_S} (h : zL 0 8 c r C R) (hs : zS fr gl gn fi nx n c r) (h17 : zz_sg c 17 = 9) : zr (PR_combine_f C) (MO_act_46 (nI fi) 9 fr (nI n) R) (zQ1 c r) := by
  have hs0 := hs
  obtain ⟨h3, h15, h7, h14, h8, h16, h18, h19, h5, hfr, hgl, hgn, hfi, hn⟩ := hs
  unfold PR_combine_f MO_act_46
  simp (decide := true) only [zz_nm_e, zL_c17 h, h17, zL_c18 h, h18, zL_c3 h, h3, zL_c15 h, h15, zL_r7 h, h7, ↓reduceIte]
  unfold MO_more_f
  simp (decide := true) only [↓reduceIte]
  unfold MO_more_299 MO_two_f
  simp only [zz_bd_a]
  refine zr_bd (zL_pop h) (fun x C1 y R1 q => ?_)
  refine zr_bd (zL_pop q.1) (fun x2 C2 y2 R2 q2 => ?_)
  simp (decide := true) only [zL_c17 q2.1, h17, ↓reduceIte]
  by_cases hf : zF C2
  · obtain ⟨hf1, hxy2⟩ := q2.2.2 hf
    obtain ⟨-, hxy⟩ := q.2.2 hf1
    subst hxy hxy2
    simp (decide := true) only [PR_combine_44, PR_combined_f, zL_c17 q2.1, h17, MO_two_33, zL_R1t q2.1 hf, if_true, zo_sgn q.2.1, zz_bd_s, zz_bd_a, ↓reduceIte]
    refine zr_bd (zL_push q2.1 (by decide) (fun _ => rfl)) (fun _ C3 _ R3 q3 => ?_)
    simp only [zz_bd_s, zz_bo_1, zz_gd_t]
    exact zr_ret (zQ1_of hs0 q3.1 (by decide) (by decide))
  · simp only [MO_two_33, zL_R1f q2.1 hf, if_false, zz_bd_s, zz_bo_1, zz_gd_t]
    obtain ⟨C3, e3, l3, f3⟩ := zo_combJ q2.1 (by decide) hf x x2
    rw [e3]
    exact zr_ret (zQ1_of hs0 l3 (by decide) (by decide))
theorem zo_10 {fr gl : Int32} {gn fi nx n : Nat} {c r C R : zz_S} (h : zL 0 8 c r C R) (hs : zS fr gl gn fi nx n c r) (h17 : zz_sg c 17 = 10) : zr (PR_combine_f C) (MO_act_46 (nI fi) 10 fr (nI n) R) (zQ1 c r) := by
  have hs0 := hs
  obtain ⟨h3, h15, h7, h14, h8, h16, h18, h19, h5, hfr, hgl, hgn, hfi, hn⟩ := hs
  unfold PR_combine_f MO_act_46
  simp (decide := true) only [zz_nm_e, zL_c17 h, h17, zL_c18 h, h18, zL_c3 h, h3, zL_c15 h, h15, zL_r7 h, h7, ↓reduceIte]
  unfold MO_more_f
  simp (decide := true) only [↓reduceIte]
  unfold MO_more_299 MO_two_f
  simp only [zz_bd_a]
  refine zr_bd (zL_pop h) (fun x C1 y R1 q => ?_)
  refine zr_bd (zL_pop q.1) (fun x2 C2 y2 R2 q2 => ?_)
  simp (decide := true) only [zL_c17 q2.1, h17, ↓reduceIte]
  by_cases hf : zF C2
  · obtain ⟨hf1, hxy2⟩ := q2.2.2 hf
    obtain ⟨-, hxy⟩ := q.2.2 hf1
    subst hxy hxy2
    simp (decide := true) only [PR_combine_44, PR_combined_f, zL_c17 q2.1, h17, MO_two_33, zL_R1t q2.1 hf, if_true, zo_sgn q.2.1, zz_bd_s, zz_bd_a, ↓reduceIte]
    refine zr_bd (zL_push q2.1 (by decide) (fun _ => rfl)) (fun _ C3 _ R3 q3 => ?_)
    simp only [zz_bd_s, zz_bo_1, zz_gd_t]
    exact zr_ret (zQ1_of hs0 q3.1 (by decide) (by decide))
  · simp only [MO_two_33, zL_R1f q2.1 hf, if_false, zz_bd_s, zz_bo_1, zz_gd_t]
    obtain ⟨C3, e3, l3, f3⟩ := zo_combJ q2.1 (by decide) hf x x2
    rw [e3]
    exact zr_ret (zQ1_of hs0 l3 (by decide) (by decide))
theorem zo_11 {fr gl : Int32} {gn fi nx n : Nat} {c r C R : zz_S} (h : zL 0 8 c r C R) (hs : zS fr gl gn fi nx n c r) (h17 : zz_sg c 17 = 11) : zr (PR_combine_f C) (MO_act_46 (nI fi) 11 fr (nI n) R) (zQ1 c r) := by
  have hs0 := hs
  obtain ⟨h3, h15, h7, h14, h8, h16, h18, h19, h5, hfr, hgl, hgn, hfi, hn⟩ := hs
  unfold PR_combine_f MO_act_46
  simp (decide := true) only [zz_nm_e, zL_c17 h, h17, zL_c18 h, h18, zL_c3 h, h3, zL_c15 h, h15, zL_r7 h, h7, ↓reduceIte]
  unfold MO_more_f
  simp (decide := true) only [↓reduceIte]
  unfold MO_more_299 MO_two_f
  simp only [zz_bd_a]
  refine zr_bd (zL_pop h) (fun x C1 y R1 q => ?_)
  refine zr_bd (zL_pop q.1) (fun x2 C2 y2 R2 q2 => ?_)
  simp (decide := true) only [zL_c17 q2.1, h17, ↓reduceIte]
  by_cases hf : zF C2
  · obtain ⟨hf1, hxy2⟩ := q2.2.2 hf
    obtain ⟨-, hxy⟩ := q.2.2 hf1
    subst hxy hxy2
    simp (decide := true) only [PR_combine_44, PR_combined_f, zL_c17 q2.1, h17, MO_two_33, zL_R1t q2.1 hf, if_true, zo_sgn q.2.1, zz_bd_s, zz_bd_a, ↓reduceIte]
    refine zr_bd (zL_push q2.1 (by decide) (fun _ => rfl)) (fun _ C3 _ R3 q3 => ?_)
    simp only [zz_bd_s, zz_bo_1, zz_gd_t]
    exact zr_ret (zQ1_of hs0 q3.1 (by decide) (by decide))
  · simp only [MO_two_33, zL_R1f q2.1 hf, if_false, zz_bd_s, zz_bo_1, zz_gd_t]
    obtain ⟨C3, e3, l3, f3⟩ := zo_combJ q2.1 (by decide) hf x x2
    rw [e3]
    exact zr_ret (zQ1_of hs0 l3 (by decide) (by decide))
theorem zo_12 {fr gl : Int32} {gn fi nx n : Nat} {c r C R : zz_S} (h : zL 0 8 c r C R) (hs : zS fr gl gn fi nx n c r) (h17 : zz_sg c 17 = 12) : zr (PR_combine_f C) (MO_act_46 (nI fi) 12 fr (nI n) R) (zQ1 c r) := by
  have hs0 := hs
  obtain ⟨h3, h15, h7, h14, h8, h16, h18, h19, h5, hfr, hgl, hgn, hfi, hn⟩ := hs
  unfold PR_combine_f MO_act_46
  simp (decide := true) only [zz_nm_e, zL_c17 h, h17, zL_c18 h, h18, zL_c3 h, h3, zL_c15 h, h15, zL_r7 h, h7, ↓reduceIte]
  unfold MO_more_f
  simp (decide := true) only [↓reduceIte]
  unfold MO_more_299 MO_two_f
  simp only [zz_bd_a]
  refine zr_bd (zL_pop h) (fun x C1 y R1 q => ?_)
  refine zr_bd (zL_pop q.1) (fun x2 C2 y2 R2 q2 => ?_)
  simp (decide := true) only [zL_c17 q2.1, h17, ↓reduceIte]
  by_cases hf : zF C2
  · obtain ⟨hf1, hxy2⟩ := q2.2.2 hf
    obtain ⟨-, hxy⟩ := q.2.2 hf1
    subst hxy hxy2
    simp only [zL_R0t q2.1 hf, if_true]
    by_cases hb : x = 0
    · simp only [hb, if_true, zz_bd_a]
      refine zr_bd (zL_fail (e := 7) q2.1 (by decide) (by decide)) (fun _ C3 _ R3 q3 => ?_)
      simp only [MO_two_33, zL_R1f q3.1 q3.2, if_false, zz_bd_s, zz_bo_1, zz_gd_t]
      exact zr_ret (zQ1_of hs0 q3.1 (by decide) (by decide))
    · have hb2 : (x != 0) = true := by simp [hb]
      simp (decide := true) only [hb, if_false, PR_combine_44, PR_combined_f, zL_c17 q2.1, h17, hb2, zz_gd_t, MO_two_33, zL_R1t q2.1 hf, if_true, zo_sgn q.2.1, zz_bd_s, zz_bd_a, ↓reduceIte]
      refine zr_bd (zL_push q2.1 (by decide) (fun _ => rfl)) (fun _ C3 _ R3 q3 => ?_)
      simp only [zz_bd_s, zz_bo_1, zz_gd_t]
      exact zr_ret (zQ1_of hs0 q3.1 (by decide) (by decide))
  · simp only [zL_R0f q2.1 hf, if_false, MO_two_33, zL_R1f q2.1 hf, zz_bd_s, zz_bo_1, zz_gd_t]
    by_cases hb : x = 0
    · rw [if_pos hb, show (7 : Int32) = nI 7 from by decide, zL_failJ q2.1 hf 7, zz_bd_s]
      exact zr_ret (zQ1_of hs0 q2.1 (by decide) (by decide))
    · rw [if_neg hb]
      obtain ⟨C3, e3, l3, f3⟩ := zo_combJ q2.1 (by decide) hf x x2
      rw [e3]
      exact zr_ret (zQ1_of hs0 l3 (by decide) (by decide))
theorem zo_13 {fr gl : Int32} {gn fi nx n : Nat} {c r C R : zz_S} (h : zL 0 8 c r C R) (hs : zS fr gl gn fi nx n c r) (h17 : zz_sg c 17 = 13) : zr (PR_combine_f C) (MO_act_46 (nI fi) 13 fr (nI n) R) (zQ1 c r) := by
  have hs0 := hs
  obtain ⟨h3, h15, h7, h14, h8, h16, h18, h19, h5, hfr, hgl, hgn, hfi, hn⟩ := hs
  unfold PR_combine_f MO_act_46
  simp (decide := true) only [zz_nm_e, zL_c17 h, h17, zL_c18 h, h18, zL_c3 h, h3, zL_c15 h, h15, zL_r7 h, h7, ↓reduceIte]
  unfold MO_more_f
  simp (decide := true) only [↓reduceIte]
  unfold MO_more_299 MO_two_f
  simp only [zz_bd_a]
  refine zr_bd (zL_pop h) (fun x C1 y R1 q => ?_)
  refine zr_bd (zL_pop q.1) (fun x2 C2 y2 R2 q2 => ?_)
  simp (decide := true) only [zL_c17 q2.1, h17, ↓reduceIte]
  by_cases hf : zF C2
  · obtain ⟨hf1, hxy2⟩ := q2.2.2 hf
    obtain ⟨-, hxy⟩ := q.2.2 hf1
    subst hxy hxy2
    simp (decide := true) only [PR_combine_44, PR_combined_f, zL_c17 q2.1, h17, MO_two_33, zL_R1t q2.1 hf, if_true, zo_sgn q.2.1, zz_bd_s, zz_bd_a, ↓reduceIte]
    refine zr_bd (zL_push q2.1 (by decide) (fun _ => rfl)) (fun _ C3 _ R3 q3 => ?_)
    simp only [zz_bd_s, zz_bo_1, zz_gd_t]
    exact zr_ret (zQ1_of hs0 q3.1 (by decide) (by decide))
  · simp only [MO_two_33, zL_R1f q2.1 hf, if_false, zz_bd_s, zz_bo_1, zz_gd_t]
    obtain ⟨C3, e3, l3, f3⟩ := zo_combJ q2.1 (by decide) hf x x2
    rw [e3]
    exact zr_ret (zQ1_of hs0 l3 (by decide) (by decide))
theorem zo_14 {fr gl : Int32} {gn fi nx n : Nat} {c r C R : zz_S} (h : zL 0 8 c r C R) (hs : zS fr gl gn fi nx n c r) (h17 : zz_sg c 17 = 14) : zr (PR_combine_f C) (MO_act_46 (nI fi) 14 fr (nI n) R) (zQ1 c r) := by
  have hs0 := hs
  obtain ⟨h3, h15, h7, h14, h8, h16, h18, h19, h5, hfr, hgl, hgn, hfi, hn⟩ := hs
  unfold PR_combine_f MO_act_46
  simp (decide := true) only [zz_nm_e, zL_c17 h, h17, zL_c18 h, h18, zL_c3 h, h3, zL_c15 h, h15, zL_r7 h, h7, ↓reduceIte]
  unfold MO_more_f
  simp (decide := true) only [↓reduceIte]
  unfold MO_more_299 MO_two_f
  simp only [zz_bd_a]
  refine zr_bd (zL_pop h) (fun x C1 y R1 q => ?_)
  refine zr_bd (zL_pop q.1) (fun x2 C2 y2 R2 q2 => ?_)
  simp (decide := true) only [zL_c17 q2.1, h17, ↓reduceIte]
  by_cases hf : zF C2
  · obtain ⟨hf1, hxy2⟩ := q2.2.2 hf
    obtain ⟨-, hxy⟩ := q.2.2 hf1
    subst hxy hxy2
    simp (decide := true) only [PR_combine_44, PR_combined_f, zL_c17 q2.1, h17, MO_two_33, zL_R1t q2.1 hf, if_true, zo_sgn q.2.1, zz_bd_s, zz_bd_a, ↓reduceIte]
    refine zr_bd (zL_push q2.1 (by decide) (fun _ => rfl)) (fun _ C3 _ R3 q3 => ?_)
    simp only [zz_bd_s, zz_bo_1, zz_gd_t]
    exact zr_ret (zQ1_of hs0 q3.1 (by decide) (by decide))
  · simp only [MO_two_33, zL_R1f q2.1 hf, if_false, zz_bd_s, zz_bo_1, zz_gd_t]
    obtain ⟨C3, e3, l3, f3⟩ := zo_combJ q2.1 (by decide) hf x x2
    rw [e3]
    exact zr_ret (zQ1_of hs0 l3 (by decide) (by decide))
theorem zo_15 {fr gl : Int32} {gn fi nx n : Nat} {c r C R : zz_S} (h : zL 0 8 c r C R) (hs : zS fr gl gn fi nx n c r) (h17 : zz_sg c 17 = 15) : zr (PR_combine_f C) (MO_act_46 (nI fi) 15 fr (nI n) R) (zQ1 c r) := by
  have hs0 := hs
  obtain ⟨h3, h15, h7, h14, h8, h16, h18, h19, h5, hfr, hgl, hgn, hfi, hn⟩ := hs
  unfold PR_combine_f MO_act_46
  simp (decide := true) only [zz_nm_e, zL_c17 h, h17, zL_c18 h, h18, zL_c3 h, h3, zL_c15 h, h15, zL_r7 h, h7, ↓reduceIte]
  unfold MO_more_f
  simp (decide := true) only [↓reduceIte]
  unfold MO_more_299 MO_two_f
  simp only [zz_bd_a]
  refine zr_bd (zL_pop h) (fun x C1 y R1 q => ?_)
  refine zr_bd (zL_pop q.1) (fun x2 C2 y2 R2 q2 => ?_)
  simp (decide := true) only [zL_c17 q2.1, h17, ↓reduceIte]
  by_cases hf : zF C2
  · obtain ⟨hf1, hxy2⟩ := q2.2.2 hf
    obtain ⟨-, hxy⟩ := q.2.2 hf1
    subst hxy hxy2
    simp (decide := true) only [PR_combine_44, PR_combined_f, zL_c17 q2.1, h17, MO_two_33, zL_R1t q2.1 hf, if_true, zo_sgn q.2.1, zz_bd_s, zz_bd_a, ↓reduceIte]
    refine zr_bd (zL_push q2.1 (by decide) (fun _ => rfl)) (fun _ C3 _ R3 q3 => ?_)
    simp only [zz_bd_s, zz_bo_1, zz_gd_t]
    exact zr_ret (zQ1_of hs0 q3.1 (by decide) (by decide))
  · simp only [MO_two_33, zL_R1f q2.1 hf, if_false, zz_bd_s, zz_bo_1, zz_gd_t]
    obtain ⟨C3, e3, l3, f3⟩ := zo_combJ q2.1 (by decide) hf x x2
    rw [e3]
    exact zr_ret (zQ1_of hs0 l3 (by decide) (by decide))
theorem zo_16 {fr gl : Int32} {gn fi nx n : Nat} {c r C R : zz_S} (h : zL 0 8 c r C R) (hs : zS fr gl gn fi nx n c r) (h17 : zz_sg c 17 = 16) : zr (PR_combine_f C) (MO_act_46 (nI fi) 16 fr (nI n) R) (zQ1 c r) := by
  have hs0 := hs
  obtain ⟨h3, h15, h7, h14, h8, h16, h18, h19, h5, hfr, hgl, hgn, hfi, hn⟩ := hs
  unfold PR_combine_f MO_act_46
  simp (decide := true) only [zz_nm_e, zL_c17 h, h17, zL_c18 h, h18, zL_c3 h, h3, zL_c15 h, h15, zL_r7 h, h7, ↓reduceIte]
  unfold MO_more_f
  simp (decide := true) only [↓reduceIte]
  unfold MO_more_299 MO_two_f
  simp only [zz_bd_a]
  refine zr_bd (zL_pop h) (fun x C1 y R1 q => ?_)
  refine zr_bd (zL_pop q.1) (fun x2 C2 y2 R2 q2 => ?_)
  simp (decide := true) only [zL_c17 q2.1, h17, ↓reduceIte]
  by_cases hf : zF C2
  · obtain ⟨hf1, hxy2⟩ := q2.2.2 hf
    obtain ⟨-, hxy⟩ := q.2.2 hf1
    subst hxy hxy2
    obtain ⟨v, e1, e2⟩ := zo_sh (x := x2) (s := x.toInt16.toInt32) C2 R2
    simp (decide := true) only [PR_combine_44, PR_combined_f, zL_c17 q2.1, h17, e1, MO_two_33, zL_R1t q2.1 hf, if_true, zo_sgn q.2.1, zz_bd_s, zz_bd_a, ↓reduceIte]
    rw [e2]
    unfold MO_two_202
    simp only [zz_bd_a]
    refine zr_bd (zL_push q2.1 (by decide) (fun _ => rfl)) (fun _ C3 _ R3 q3 => ?_)
    simp only [zz_bd_s, zz_bo_1, zz_gd_t]
    exact zr_ret (zQ1_of hs0 q3.1 (by decide) (by decide))
  · simp only [MO_two_33, zL_R1f q2.1 hf, if_false, zz_bd_s, zz_bo_1, zz_gd_t]
    obtain ⟨C3, e3, l3, f3⟩ := zo_combJ q2.1 (by decide) hf x x2
    rw [e3]
    exact zr_ret (zQ1_of hs0 l3 (by decide) (by decide))
theorem zo_19 {fr gl : Int32} {gn fi nx n : Nat} {c r C R : zz_S} (h : zL 0 8 c r C R) (hs : zS fr gl gn fi nx n c r) (h17 : zz_sg c 17 = 19) : zr (PR_arrange_f C) (MO_act_46 (nI fi) 19 fr (nI n) R) (zQ1 c r) := by
  have hs0 := hs
  obtain ⟨h3, h15, h7, h14, h8, h16, h18, h19, h5, hfr, hgl, hgn, hfi, hn⟩ := hs
  unfold PR_arrange_f MO_act_46
  simp (decide := true) only [zz_nm_e, zL_c17 h, h17, zL_c18 h, h18, zL_c3 h, h3, zL_c15 h, h15, zL_r7 h, h7, ↓reduceIte]
  unfold MO_more_f
  simp (decide := true) only [↓reduceIte]
  unfold MO_more_293
  simp (decide := true) only [↓reduceIte]
  unfold MO_more_299 MO_two_f
  simp only [zz_bd_a]
  refine zr_bd (zL_pop h) (fun x C1 y R1 q => ?_)
  refine zr_bd (zL_pop q.1) (fun x2 C2 y2 R2 q2 => ?_)
  simp (decide := true) only [↓reduceIte]
  by_cases hf : zF C2
  · obtain ⟨hf1, hxy2⟩ := q2.2.2 hf
    obtain ⟨-, hxy⟩ := q.2.2 hf1
    subst hxy hxy2
    simp (decide := true) only [MO_two_33, zL_R1t q2.1 hf, if_true, zo_sgn q.2.1, zz_bd_s, zz_bd_a, ↓reduceIte]
    refine zr_bd (zL_push q2.1 (by decide) (fun _ => rfl)) (fun _ C3 _ R3 q3 => ?_)
    refine zr_bd (zL_push q3.1 (by decide) (fun _ => rfl)) (fun _ C4 _ R4 q4 => ?_)
    simp only [zz_bd_s, zz_bo_1, zz_gd_t]
    exact zr_ret (zQ1_of hs0 q4.1 (by decide) (by decide))
  · simp only [MO_two_33, zL_R1f q2.1 hf, if_false, zz_bd_s, zz_bo_1, zz_gd_t]
    obtain ⟨C3, e3, l3, f3⟩ := zL_pushJ q2.1 (by decide) hf x
    obtain ⟨C4, e4, l4, f4⟩ := zL_pushJ l3 (by decide) f3 x2
    rw [e3, zz_bd_s, e4, zz_bd_s]
    exact zr_ret (zQ1_of hs0 l4 (by decide) (by decide))
