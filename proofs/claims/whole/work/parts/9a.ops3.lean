/-! fields of a word; a word pushed -/
def zh_sh (n : Nat) : Nat := 16 - n / 16 - (n % 16 + 1)
def zh_sz (n : Nat) : Nat := if n % 16 + 1 ≤ 16 - n / 16 then n % 16 + 1 else 16 - n / 16
theorem zh_1 : ∀ n, n < 256 → zz_max (0 : Int32) (((16 : Int32) - (nI n >>> ((4 : Int32) &&& 31))) - ((nI n &&& (15 : Int32)) + (1 : Int32))) = nI (zh_sh n) := by decide +kernel
theorem zh_2 : ∀ n, n < 256 → (((65535 : Int32) >>> ((nI n >>> ((4 : Int32) &&& 31)) &&& 31)) &&& ((65535 : Int32) <<< (nI (zh_sh n) &&& 31))) = nI ((2 ^ zh_sz n - 1) * 2 ^ zh_sh n) := by decide +kernel
theorem zh_3 : ∀ n, n < 256 → (if ((zz_rem (nI n) (16 : Int32)) + (1 : Int32)) ≤ ((16 : Int32) - nI n / (16 : Int32)) then ((zz_rem (nI n) (16 : Int32)) + (1 : Int32)) else ((16 : Int32) - nI n / (16 : Int32))) = nI (zh_sz n) := by decide +kernel
theorem zh_4 : ∀ n, n < 256 → (((16 : Int32) - nI n / (16 : Int32)) - nI (zh_sz n)) = nI (zh_sh n) := by decide +kernel
theorem zh_5 : ∀ n, n < 256 → (((1 : Int32) <<< (nI (zh_sz n) &&& 31)) - (1 : Int32)) = nI (2 ^ zh_sz n - 1) := by decide +kernel
theorem zh_6 : ∀ n, n < 256 → zh_sh n < 16 ∧ (2 ^ zh_sz n - 1) * 2 ^ zh_sh n < 65536 ∧ zh_sz n ≤ 16 := by decide +kernel
theorem zh_shift {C : zz_S} {n : Nat} (hn : n < 256) (h : zz_sg C 18 = nI n) : PR_fieldShift_f C = some (nI (zh_sh n), C) := by
  unfold PR_fieldShift_f
  simp only [h, zz_nm_e, zh_1 n hn]
theorem zh_mask {C : zz_S} {n : Nat} (hn : n < 256) (h : zz_sg C 18 = nI n) : PR_fieldMask_f C = some (nI ((2 ^ zh_sz n - 1) * 2 ^ zh_sh n), C) := by
  unfold PR_fieldMask_f
  simp only [zh_shift hn h, h, zz_nm_e, zz_bd_s, zh_2 n hn]
theorem zh_field {R : zz_S} {n : Nat} (hn : n < 256) (x : Int32) : MO_field_f x (nI n) R = some ((x >>> (nI (zh_sh n) &&& 31)) &&& nI (2 ^ zh_sz n - 1), R) := by
  have e := zh_3 n hn
  unfold MO_field_f MO_field_31
  rw [zz_nm_e]
  by_cases h : ((zz_rem (nI n) (16 : Int32)) + (1 : Int32)) ≤ ((16 : Int32) - nI n / (16 : Int32))
  · rw [if_pos h] at e ⊢
    rw [e, zh_4 n hn, zh_5 n hn]
  · rw [if_neg h] at e ⊢
    rw [e]
    have e4 := zh_4 n hn
    rw [e] at e4
    rw [e4, zh_5 n hn]
theorem zh_placed {R : zz_S} {n : Nat} (hn : n < 256) (v f : Int32) : MO_placed_f v f (nI n) R = some ((v &&& (nI ((2 ^ zh_sz n - 1) * 2 ^ zh_sh n) ^^^ (-1 : Int32))) ||| ((f <<< (nI (zh_sh n) &&& 31)) &&& nI ((2 ^ zh_sz n - 1) * 2 ^ zh_sh n)), R) := by
  have e := zh_3 n hn
  have h6 := zh_6 n hn
  unfold MO_placed_f MO_placed_31
  simp only [zz_nm_e]
  by_cases h : ((zz_rem (nI n) (16 : Int32)) + (1 : Int32)) ≤ ((16 : Int32) - nI n / (16 : Int32))
  · rw [if_pos h] at e ⊢
    rw [e, zh_4 n hn, zh_5 n hn, zi_shl _ (by omega)]
  · rw [if_neg h] at e ⊢
    rw [e]
    have e4 := zh_4 n hn
    rw [e] at e4
    rw [e4, zh_5 n hn, zi_shl _ (by omega)]
theorem zh_get {n w : Nat} (hn : n < 256) (hw : w < 65536) : (nI w &&& nI ((2 ^ zh_sz n - 1) * 2 ^ zh_sh n)) >>> (nI (zh_sh n) &&& 31) = (nI w >>> (nI (zh_sh n) &&& 31)) &&& nI (2 ^ zh_sz n - 1) := by
  have h6 := zh_6 n hn
  have hlt : w &&& ((2 ^ zh_sz n - 1) * 2 ^ zh_sh n) < 2 ^ 31 := Nat.lt_of_le_of_lt Nat.and_le_left (by omega)
  rw [zi_and, zi_shr hlt (by omega), zi_shr (by omega) (by omega), zi_and]
  congr 1
  apply Nat.eq_of_testBit_eq
  intro i
  simp only [Nat.testBit_and, Nat.testBit_div_two_pow, Nat.testBit_mul_two_pow]
  simp
theorem zo_2 {fr gl : Int32} {gn fi nx n : Nat} {c r C R : zz_S} (h : zL 0 8 c r C R) (hs : zS fr gl gn fi nx n c r) (h17 : zz_sg c 17 = 2) : zr (PR_move_f C) (zz_bd (MO_push_f (nI n) R) fun _ s => some ((1 : Int32), s)) (zQ1 c r) := by
  have hs0 := hs
  obtain ⟨h3, h15, h7, h14, h8, h16, h18, h19, h5, hfr, hgl, hgn, hfi, hn⟩ := hs
  unfold PR_move_f
  simp (decide := true) only [zz_nm_e, zL_c17 h, h17, zL_c18 h, h18, zL_c3 h, h3, zL_c15 h, h15, zL_r7 h, h7, ↓reduceIte]
  exact zr_bd (zL_push h (by decide) (fun _ => rfl)) (fun _ C1 _ R1 q => zr_ret (zQ1_of hs0 q.1 (by decide) (by decide)))
theorem zh_all {n : Nat} (hn : n < 256) : ∃ sh M k : Int32, (∀ C : zz_S, zz_sg C 18 = nI n → PR_fieldShift_f C = some (sh, C)) ∧ (∀ C : zz_S, zz_sg C 18 = nI n → PR_fieldMask_f C = some (M, C)) ∧ (∀ (x : Int32) (R : zz_S), MO_field_f x (nI n) R = some ((x >>> (sh &&& 31)) &&& k, R)) ∧ (∀ (v f : Int32) (R : zz_S), MO_placed_f v f (nI n) R = some ((v &&& (M ^^^ (-1 : Int32))) ||| ((f <<< (sh &&& 31)) &&& M), R)) ∧ ∀ y, zWd y → (y &&& M) >>> (sh &&& 31) = (y >>> (sh &&& 31)) &&& k :=
  ⟨nI (zh_sh n), nI ((2 ^ zh_sz n - 1) * 2 ^ zh_sh n), nI (2 ^ zh_sz n - 1), fun _ h => zh_shift hn h, fun _ h => zh_mask hn h, fun _ _ => zh_field hn _, fun _ _ _ => zh_placed hn _ _, fun y hy => by
    obtain ⟨w, hw, e⟩ := hy
    subst e
    exact zh_get hn hw⟩
theorem zo_23 {fr gl : Int32} {gn fi nx n : Nat} {c r C R : zz_S} (h : zL 0 8 c r C R) (hs : zS fr gl gn fi nx n c r) (hn256 : n < 256) (h17 : zz_sg c 17 = 23) : zr (PR_arrange_f C) (MO_act_46 (nI fi) 23 fr (nI n) R) (zQ1 c r) := by
  have hs0 := hs
  obtain ⟨h3, h15, h7, h14, h8, h16, h18, h19, h5, hfr, hgl, hgn, hfi, hn⟩ := hs
  unfold PR_arrange_f MO_act_46
  simp (decide := true) only [zz_nm_e, zL_c17 h, h17, zL_c18 h, h18, zL_c3 h, h3, zL_c15 h, h15, zL_r7 h, h7, ↓reduceIte]
  obtain ⟨sh, M, k, z1, z2, z3, z4, z5⟩ := zh_all hn256
  refine zr_bd (zL_pop h) (fun x C1 y R1 q => ?_)
  have e18 : zz_sg C1 18 = nI n := (zL_c18 q.1).trans h18
  rw [z2 C1 e18, zz_bd_s, z1 C1 e18, zz_bd_s, z3, zz_bd_s]
  exact zr_bd (zL_push q.1 (by decide) (fun z => by rw [(q.2.2 z).2, z5 y q.2.1])) (fun _ C2 _ R2 q2 => zr_ret (zQ1_of hs0 q2.1 (by decide) (by decide)))
theorem zo_24 {fr gl : Int32} {gn fi nx n : Nat} {c r C R : zz_S} (h : zL 0 8 c r C R) (hs : zS fr gl gn fi nx n c r) (hn256 : n < 256) (h17 : zz_sg c 17 = 24) : zr (PR_arrange_f C) (MO_act_46 (nI fi) 24 fr (nI n) R) (zQ1 c r) := by
  have hs0 := hs
  obtain ⟨h3, h15, h7, h14, h8, h16, h18, h19, h5, hfr, hgl, hgn, hfi, hn⟩ := hs
  unfold PR_arrange_f MO_act_46
  simp (decide := true) only [zz_nm_e, zL_c17 h, h17, zL_c18 h, h18, zL_c3 h, h3, zL_c15 h, h15, zL_r7 h, h7, ↓reduceIte]
  obtain ⟨sh, M, k, z1, z2, z3, z4, z5⟩ := zh_all hn256
  refine zr_bd (zL_pop h) (fun x C1 y R1 q => ?_)
  have e18 : zz_sg C1 18 = nI n := (zL_c18 q.1).trans h18
  rw [z1 C1 e18, zz_bd_s]
  refine zr_bd (zL_pop q.1) (fun x2 C2 y2 R2 q2 => ?_)
  have e182 : zz_sg C2 18 = nI n := (zL_c18 q2.1).trans h18
  rw [z2 C2 e182, zz_bd_s, z2 C2 e182, zz_bd_s, z4, zz_bd_s]
  refine zr_bd (zL_push q2.1 (by decide) (fun z => ?_)) (fun _ C3 _ R3 q3 => zr_ret (zQ1_of hs0 q3.1 (by decide) (by decide)))
  obtain ⟨y1, hxy2⟩ := q2.2.2 z
  obtain ⟨-, hxy⟩ := q.2.2 y1
  rw [hxy, hxy2]
