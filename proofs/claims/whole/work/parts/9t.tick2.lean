/-! ticks, all of them -/
def zfl (left p : Nat) : Nat := if p = 0 ∨ left < p then left else p
theorem zleast {m : zM} {d e : Nat} {w v : Nat → Int32} {B left : Nat} {c r : zz_S} {k45 : Int32 → Int32 → Int32 → zz_S → Option (Int32 × zz_S)} {x2 x3 x4 : Int32} (hT : zTx B 6 c r) (hl : left < 2 ^ 31) : ∀ (k n i p : Nat), i + k = 6 → p < 65536 → ∃ p', RO_leastTimeout_4 (n + k + 1) (nI p) (nI i) (zC c m d w) = some (nI p', zC c m d w) ∧ MO_tick_59 k45 (n + k + 1) x2 x3 x4 (nI (zfl left p)) (nI i) (zR r m e v) = MO_tick_117 k45 10 x2 x3 x4 (nI (zfl left p')) 0 (zR r m e v) ∧ p' < 65536 ∧ (p' = 0 → p = 0 ∧ ∀ j, i ≤ j → j < 6 → ztv c j = 0) ∧ (p' ≠ 0 → (∀ j, i ≤ j → j < 6 → ztv c j = 0 ∨ p' ≤ ztv c j) ∧ (p ≠ 0 → p' ≤ p) ∧ (p' = p ∨ ∃ j, i ≤ j ∧ j < 6 ∧ ztv c j = p')) := by
  intro k
  induction k with
  | zero =>
    intro n i p hi hp
    have : i = 6 := by omega
    subst this
    refine ⟨p, ?_, ?_, hp, fun z => ⟨z, fun j a b => by omega⟩, fun z => ⟨fun j a b => by omega, fun _ => Nat.le_refl _, Or.inl rfl⟩⟩
    · show RO_leastTimeout_4b (RO_leastTimeout_4 (n + 0)) (nI p) (nI 6) (zC c m d w) = _
      unfold RO_leastTimeout_4b
      rw [if_pos (by decide)]
    · show MO_tick_59b k45 (MO_tick_59 k45 (n + 0)) x2 x3 x4 (nI (zfl left p)) (nI 6) (zR r m e v) = _
      unfold MO_tick_59b
      rw [if_pos (by decide)]
  | succ k ih =>
    intro n i p hi hp
    have h6 : i < 6 := by omega
    obtain ⟨tv1, tv2, tv3⟩ := zTm hT h6
    have hq : zfl left p < 2 ^ 31 := by
      unfold zfl
      split <;> omega
    have eC : RO_leastTimeout_4 (n + (k + 1) + 1) (nI p) (nI i) (zC c m d w) = RO_leastTimeout_4 (n + k + 1) (nI (if ztv c i = 0 then p else if p = 0 then ztv c i else if p ≤ ztv c i then p else ztv c i)) (nI (i + 1)) (zC c m d w) := by
      show RO_leastTimeout_4b (RO_leastTimeout_4 (n + k + 1)) (nI p) (nI i) (zC c m d w) = _
      unfold RO_leastTimeout_4b RO_leastTimeout_33 RO_leastTimeout_35
      rw [if_neg (zn6 h6), zi_in (by decide) h6, zz_gd_t, nI_clamp (by omega), zz_nm_e, zz_nm_e, zC_ag12, tv1, nI_1]
      by_cases z : ztv c i = 0
      · rw [if_pos z, if_pos (by rw [z]; decide)]
      · rw [if_neg z, if_neg (by rw [zi_le0 (by omega)]; exact z)]
        by_cases p0 : p = 0
        · rw [if_pos p0, if_pos (by rw [p0]; decide)]
        · rw [if_neg p0, if_neg (by rw [zi_z (by omega)]; exact p0)]
          by_cases le : p ≤ ztv c i
          · rw [if_pos le, if_pos (nI_le le (by omega))]
          · rw [if_neg le, if_neg (nI_ge (by omega) (by omega))]
    have eR : MO_tick_59 k45 (n + (k + 1) + 1) x2 x3 x4 (nI (zfl left p)) (nI i) (zR r m e v) = MO_tick_59 k45 (n + k + 1) x2 x3 x4 (nI (if ztv c i = 0 then zfl left p else if zfl left p < ztv c i then zfl left p else ztv c i)) (nI (i + 1)) (zR r m e v) := by
      show MO_tick_59b k45 (MO_tick_59 k45 (n + k + 1)) x2 x3 x4 (nI (zfl left p)) (nI i) (zR r m e v) = _
      unfold MO_tick_59b MO_tick_108
      rw [if_neg (zn6 h6), zi_in (by decide) h6, zz_gd_t, nI_clamp (by omega), zR_ag5, zR_ag11, nI_1]
      rcases tv3 with ⟨s3, r11⟩ | ⟨s3, z⟩
      · rw [if_pos s3, zz_gd_t, r11]
        by_cases z : ztv c i = 0
        · rw [if_pos z, if_pos (by rw [z]; decide)]
        · rw [if_neg z, if_neg (by rw [zi_le0 (by omega)]; exact z), zz_gd_t]
          by_cases lt : zfl left p < ztv c i
          · rw [if_pos lt, if_pos (nI_lt lt (by omega))]
          · rw [if_neg lt, if_neg (nI_nlt (by omega) hq), zz_gd_t, zz_nm_e]
      · rw [if_neg s3, if_pos z]
    have ef : (if ztv c i = 0 then zfl left p else if zfl left p < ztv c i then zfl left p else ztv c i) = zfl left (if ztv c i = 0 then p else if p = 0 then ztv c i else if p ≤ ztv c i then p else ztv c i) := by
      unfold zfl
      by_cases z : ztv c i = 0
      · simp only [z, if_true]
      · simp only [z, if_false]
        by_cases p0 : p = 0
        · simp only [p0, if_true, true_or, z, false_or]
        · simp only [p0, if_false, false_or]
          by_cases le : p ≤ ztv c i
          · simp only [le, if_true, p0, false_or]
            by_cases l1 : left < p
            · simp only [l1, if_true]
              rw [if_pos (by omega)]
            · simp only [l1, if_false]
              by_cases l2 : p < ztv c i
              · rw [if_pos l2]
              · rw [if_neg l2]; omega
          · simp only [le, if_false, z, false_or]
            by_cases l1 : left < p
            · simp only [l1, if_true]
            · simp only [l1, if_false]
              rw [if_neg (by omega), if_neg (by omega)]
    have hp1 : (if ztv c i = 0 then p else if p = 0 then ztv c i else if p ≤ ztv c i then p else ztv c i) < 65536 := by
      split
      · exact hp
      · split
        · exact tv2
        · split
          · exact hp
          · exact tv2
    rw [eC, eR, ef]
    obtain ⟨p', a1, a2, a3, a4, a5⟩ := ih n (i + 1) _ (by omega) hp1
    refine ⟨p', a1, a2, a3, fun z => ?_, fun z => ?_⟩
    · obtain ⟨b1, b2⟩ := a4 z
      have : ztv c i = 0 ∧ p = 0 := by
        by_cases z : ztv c i = 0
        · rw [if_pos z] at b1; exact ⟨z, b1⟩
        · rw [if_neg z] at b1
          by_cases p0 : p = 0
          · rw [if_pos p0] at b1; exact absurd b1 z
          · rw [if_neg p0] at b1
            split at b1 <;> omega
      refine ⟨this.2, fun j h1 h2 => ?_⟩
      by_cases ij : j = i
      · rw [ij]; exact this.1
      · exact b2 j (by omega) h2
    · obtain ⟨b1, b2, b3⟩ := a5 z
      refine ⟨fun j h1 h2 => ?_, fun p0 => ?_, ?_⟩
      · by_cases ij : j = i
        · subst ij
          by_cases z0 : ztv c j = 0
          · exact Or.inl z0
          · refine Or.inr ?_
            rw [if_neg z0] at b2
            by_cases p0 : p = 0
            · rw [if_pos p0] at b2; exact b2 z0
            · rw [if_neg p0] at b2
              by_cases le : p ≤ ztv c j
              · rw [if_pos le] at b2
                have := b2 p0
                omega
              · rw [if_neg le] at b2
                exact b2 z0
        · exact b1 j (by omega) h2
      · by_cases z0 : ztv c i = 0
        · rw [if_pos z0] at b2; exact b2 p0
        · rw [if_neg z0, if_neg p0] at b2
          by_cases le : p ≤ ztv c i
          · rw [if_pos le] at b2; exact b2 p0
          · rw [if_neg le] at b2
            have := b2 z0
            omega
      · rcases b3 with b3 | ⟨j, h1, h2, h3⟩
        · by_cases z0 : ztv c i = 0
          · rw [if_pos z0] at b3; exact Or.inl b3
          · rw [if_neg z0] at b3
            by_cases p0 : p = 0
            · rw [if_pos p0] at b3; exact Or.inr ⟨i, Nat.le_refl _, h6, b3.symm⟩
            · rw [if_neg p0] at b3
              by_cases le : p ≤ ztv c i
              · rw [if_pos le] at b3; exact Or.inl b3
              · rw [if_neg le] at b3; exact Or.inr ⟨i, Nat.le_refl _, h6, b3.symm⟩
        · exact Or.inr ⟨j, by omega, h2, h3⟩
theorem zz_ap_self (s : zz_S) (a i : Nat) : zz_ap s a i (zz_ag s a i) = s := by
  refine zS_ext (fun _ => rfl) (fun b j => ?_) (fun _ => rfl) (fun _ _ => rfl)
  rw [zz_ag_ap]
  by_cases h : b = a ∧ j = i
  · rw [if_pos h, h.1, h.2]
  · rw [if_neg h]
theorem zlower0 {m : zM} {d : Nat} {w : Nat → Int32} {B : Nat} {c r : zz_S} (hT : zTx B 6 c r) : ∀ (k n i : Nat) (x : Int32), i + k = 6 → RO_lowerTimeouts_4 (n + k + 1) 0 x (nI i) (zC c m d w) = some (x, zC c m d w) := by
  intro k
  induction k with
  | zero =>
    intro n i x hi
    have : i = 6 := by omega
    subst this
    show RO_lowerTimeouts_4b (RO_lowerTimeouts_4 (n + 0)) 0 x (nI 6) (zC c m d w) = _
    unfold RO_lowerTimeouts_4b
    rw [if_pos (by decide)]
  | succ k ih =>
    intro n i x hi
    have h6 : i < 6 := by omega
    obtain ⟨tv1, tv2, tv3⟩ := zTm hT h6
    show RO_lowerTimeouts_4b (RO_lowerTimeouts_4 (n + k + 1)) 0 x (nI i) (zC c m d w) = _
    unfold RO_lowerTimeouts_4b RO_lowerTimeouts_54
    rw [if_neg (zn6 h6), zi_in (by decide) h6, zz_gd_t, nI_clamp (by omega), zz_nm_e, zC_ag12, Int32.sub_zero, zC_ap12, zz_ap_self, zz_nm_e, zC_ag12, nI_1, tv1]
    by_cases z : ztv c i = 0
    · rw [if_pos (by rw [z]; decide)]
      exact ih n (i + 1) x (by omega)
    · rw [if_neg (by rw [zi_le0 (by omega)]; exact z), if_neg (by rw [zi_z (by omega)]; exact z)]
      exact ih n (i + 1) x (by omega)
def zcn (c : zz_S) : Nat := (if ztv c 0 = 0 then 0 else 1) + (if ztv c 1 = 0 then 0 else 1) + (if ztv c 2 = 0 then 0 else 1) + (if ztv c 3 = 0 then 0 else 1) + (if ztv c 4 = 0 then 0 else 1) + (if ztv c 5 = 0 then 0 else 1)
theorem zsum_lt {f g : Nat → Nat} {t : Nat} (ht : t < 6) (h : ∀ u, u < 6 → g u ≤ f u) (hs : g t < f t) : g 0 + g 1 + g 2 + g 3 + g 4 + g 5 < f 0 + f 1 + f 2 + f 3 + f 4 + f 5 := by
  have h0 := h 0 (by decide); have h1 := h 1 (by decide); have h2 := h 2 (by decide); have h3 := h 3 (by decide); have h4 := h 4 (by decide); have h5 := h 5 (by decide)
  have : t = 0 ∨ t = 1 ∨ t = 2 ∨ t = 3 ∨ t = 4 ∨ t = 5 := by omega
  rcases this with rfl | rfl | rfl | rfl | rfl | rfl <;> omega
theorem zcn_le (c : zz_S) : zcn c ≤ 6 := by
  unfold zcn
  split <;> split <;> split <;> split <;> split <;> split <;> omega
theorem zcn_lt {c c' : zz_S} {L t : Nat} (h : ∀ j, j < 6 → ztv c' j = if 0 ≤ j then ztv c j - L else ztv c j) (ht : t < 6) (e : ztv c t = L) (hL : L ≠ 0) : zcn c' < zcn c := by
  refine zsum_lt (f := fun j => if ztv c j = 0 then 0 else 1) (g := fun j => if ztv c' j = 0 then 0 else 1) ht (fun u hu => ?_) ?_
  · have := h u hu
    rw [if_pos (Nat.zero_le _)] at this
    show (if ztv c' u = 0 then 0 else 1) ≤ (if ztv c u = 0 then 0 else 1)
    split
    · omega
    · rw [if_neg (by omega)]; exact Nat.le_refl _
  · have := h t ht
    rw [if_pos (Nat.zero_le _)] at this
    show (if ztv c' t = 0 then 0 else 1) < (if ztv c t = 0 then 0 else 1)
    rw [if_pos (by omega), if_neg (by omega)]
    decide
theorem MO_117_e {k45 : Int32 → Int32 → Int32 → zz_S → Option (Int32 × zz_S)} {n left by_ : Nat} {x3 x4 : Int32} {R : zz_S} (hl : left < 2 ^ 31) (hb : by_ ≤ left) : MO_tick_117 k45 (n + 1) (nI left) x3 x4 (nI by_) (nI 6) R = if x4 = 0 then k45 (nI (left - by_)) x3 0 R else k45 (nI (left - by_)) x3 (if left - by_ = 0 then 0 else 1) R := by
  show MO_tick_117b k45 (MO_tick_117 k45 n) (nI left) x3 x4 (nI by_) (nI 6) R = _
  unfold MO_tick_117b MO_tick_209 MO_tick_210
  rw [if_pos (by decide), zi_sub hb, zz_nm_e]
  by_cases h : x4 = 0
  · rw [if_pos h, if_pos h]
  · rw [if_neg h, if_neg h]
    by_cases z : left - by_ = 0
    · rw [if_pos (by rw [z]; decide), if_pos z]
    · rw [if_neg (by rw [zi_le0 (by omega)]; exact z), if_neg z]
theorem RO_least_e {m : zM} {d : Nat} {w : Nat → Int32} {B : Nat} {c r : zz_S} (hT : zTx B 6 c r) : ∃ p, RO_leastTimeout_f (zC c m d w) = some (nI p, zC c m d w) ∧ p < 65536 := by
  obtain ⟨p, a1, -, a3, -⟩ := zleast (m := m) (d := d) (e := 0) (w := w) (v := w) (left := 0) (k45 := fun _ _ _ _ => none) (x2 := 0) (x3 := 0) (x4 := 0) hT (by decide) 6 3 0 0 (by decide) (by decide)
  exact ⟨p, a1, a3⟩
theorem zt_A {m : zM} {d : Nat} {w : Nat → Int32} {B n k j x : Nat} {c r : zz_S} (hT : zTx B 6 c r) (hj : j + k = 6) : RO_passTicks_7 (n + k + 1) (nI 0) (nI x) (nI j) (zC c m d w) = some (nI x, zC c m d w) := by
  have e54 : RO_passTicks_54 (nI 0) (nI x) (zC c m d w) = some (nI x, zC c m d w) := by
    unfold RO_passTicks_54 RO_lowerTimeouts_f
    have : RO_lowerTimeouts_4 10 (nI 0) (0 : Int32) (0 : Int32) (zC c m d w) = some (0, zC c m d w) := zlower0 (m := m) (d := d) (w := w) hT 6 3 0 0 (by decide)
    rw [this, zz_bd_s, Int32.add_zero]
  obtain ⟨p, e1, hp⟩ := RO_least_e (m := m) (d := d) (w := w) hT
  show RO_passTicks_7b (RO_passTicks_7 (n + k)) (nI 0) (nI x) (nI j) (zC c m d w) = _
  unfold RO_passTicks_7b
  by_cases h6 : j < 6
  · rw [if_neg (zn6 h6), e1, zz_bd_s]
    by_cases p0 : p = 0
    · rw [if_pos (by rw [p0]; decide), e54]
    · rw [if_neg (by rw [zi_z (by omega)]; exact p0), if_neg (nI_ge (by omega) (by omega)), e54]
  · have : j = 6 := by omega
    subst this
    rw [if_pos (by decide), e54]
theorem zt_54 {m : zM} {d e : Nat} {w v : Nat → Int32} {B left x : Nat} {c r : zz_S} {k45 : Int32 → Int32 → Int32 → zz_S → Option (Int32 × zz_S)} (hT : zTx B 6 c r) (hB : B + 6 < 2147483000) (hl : left ≤ 100000) (h : ∀ j, j < 6 → ztv c j = 0 ∨ left ≤ ztv c j) : ∃ c' r' b, RO_passTicks_54 (nI left) (nI x) (zC c m d w) = some (nI b, zC c' m d w) ∧ MO_tick_117 k45 10 (nI left) (nI x) 0 (nI left) 0 (zR r m e v) = k45 (nI 0) (nI b) 0 (zR r' m e v) ∧ zTx (B + 6) 6 c' r' ∧ zz_sg r' 0 = zz_sg r 0 := by
  obtain ⟨c', r', q, x4', a1, a2, a3, a4, a5, a6, a7, a8, a9⟩ := zlower (m := m) (d := d) (e := e) (w := w) (v := v) (by_ := left) (k45 := k45) (x2 := nI left) (by omega) 6 3 0 0 x B 0 c r (by decide) hT (by omega) (fun j hj => (h j hj).imp id Or.inl)
  refine ⟨c', r', x + q, ?_, ?_, zTx_up a3 (by omega), a6⟩
  · unfold RO_passTicks_54 RO_lowerTimeouts_f
    have a1' : RO_lowerTimeouts_4 10 (nI left) (0 : Int32) (0 : Int32) (zC c m d w) = some (nI (0 + q), zC c' m d w) := a1
    rw [a1', zz_bd_s, nI_add, Nat.zero_add]
  · have a2' : MO_tick_117 k45 10 (nI left) (nI x) 0 (nI left) 0 (zR r m e v) = MO_tick_117 k45 4 (nI left) (nI (x + q)) x4' (nI left) (nI 6) (zR r' m e v) := a2
    rw [a2', MO_117_e (by omega) (Nat.le_refl _), Nat.sub_self]
    split
    · rfl
    · rfl
theorem MO_45_0 {n : Nat} {x2 x3 : Int32} {R : zz_S} : MO_tick_45 (n + 1) x2 x3 0 R = some (x3, R) := by
  show MO_tick_45b (MO_tick_45 n) x2 x3 0 R = _
  unfold MO_tick_45b
  rw [if_pos rfl]
theorem MO_45_1 {n : Nat} {x2 x3 : Int32} {R : zz_S} : MO_tick_45 (n + 1) x2 x3 1 R = MO_tick_59 (MO_tick_45 n) 10 x2 x3 0 x2 0 R := by
  show MO_tick_45b (MO_tick_45 n) x2 x3 1 R = _
  unfold MO_tick_45b
  rw [if_neg (by decide)]
/-- one round: either the last one, or one that wakes somebody -/
theorem zt_round {m : zM} {d e : Nat} {w v : Nat → Int32} {n mm k j left x B : Nat} {c r : zz_S} (hj : j + k = 6) (hc : zcn c ≤ k) (hT : zTx B 6 c r) (hl : left ≤ 100000) (hl0 : ¬ left = 0) (hB : B + 6 < 2147483000) : (∃ c' r' b, RO_passTicks_7 (n + k + 1) (nI left) (nI x) (nI j) (zC c m d w) = some (nI b, zC c' m d w) ∧ MO_tick_45 (mm + 2) (nI left) (nI x) 1 (zR r m e v) = some (nI b, zR r' m e v) ∧ zTx (B + 6) 6 c' r' ∧ zz_sg r' 0 = zz_sg r 0) ∨ (∃ c' r' k' left' x', k = k' + 1 ∧ RO_passTicks_7 (n + k + 1) (nI left) (nI x) (nI j) (zC c m d w) = RO_passTicks_7 (n + k' + 1) (nI left') (nI x') (nI (j + 1)) (zC c' m d w) ∧ MO_tick_45 (mm + 2) (nI left) (nI x) 1 (zR r m e v) = MO_tick_45 (mm + 1) (nI left') (nI x') (if left' = 0 then 0 else 1) (zR r' m e v) ∧ zTx (B + 6) 6 c' r' ∧ zz_sg r' 0 = zz_sg r 0 ∧ left' ≤ 100000 ∧ zcn c' < zcn c) := by
  obtain ⟨p, a1, a2, a3, a4, a5⟩ := zleast (m := m) (d := d) (e := e) (w := w) (v := v) (left := left) (k45 := MO_tick_45 (mm + 1)) (x2 := nI left) (x3 := nI x) (x4 := 0) hT (by omega) 6 3 0 0 (by decide) (by decide)
  have a1' : RO_leastTimeout_f (zC c m d w) = some (nI p, zC c m d w) := a1
  have a2' : MO_tick_59 (MO_tick_45 (mm + 1)) 10 (nI left) (nI x) 0 (nI left) 0 (zR r m e v) = MO_tick_117 (MO_tick_45 (mm + 1)) 10 (nI left) (nI x) 0 (nI (zfl left p)) 0 (zR r m e v) := a2
  have eR : MO_tick_45 (mm + 2) (nI left) (nI x) 1 (zR r m e v) = MO_tick_117 (MO_tick_45 (mm + 1)) 10 (nI left) (nI x) 0 (nI (zfl left p)) 0 (zR r m e v) := MO_45_1.trans a2'
  rw [eR]
  show (∃ c' r' b, RO_passTicks_7b (RO_passTicks_7 (n + k)) (nI left) (nI x) (nI j) (zC c m d w) = _ ∧ _) ∨ (∃ c' r' k' left' x', _ ∧ RO_passTicks_7b (RO_passTicks_7 (n + k)) (nI left) (nI x) (nI j) (zC c m d w) = _ ∧ _)
  unfold RO_passTicks_7b
  by_cases hp : p = 0 ∨ left < p
  · refine Or.inl ?_
    have ef : zfl left p = left := by unfold zfl; rw [if_pos hp]
    have hle : ∀ i, i < 6 → ztv c i = 0 ∨ left ≤ ztv c i := fun i hi => by
      by_cases p0 : p = 0
      · exact Or.inl ((a4 p0).2 i (Nat.zero_le _) hi)
      · rcases (a5 p0).1 i (Nat.zero_le _) hi with q | q
        · exact Or.inl q
        · exact Or.inr (by omega)
    obtain ⟨c', r', b, b1, b2, b3, b4⟩ := zt_54 (m := m) (d := d) (e := e) (w := w) (v := v) (x := x) (k45 := MO_tick_45 (mm + 1)) hT hB hl hle
    refine ⟨c', r', b, ?_, ?_, b3, b4⟩
    · by_cases h6 : j < 6
      · rw [if_neg (zn6 h6), a1', zz_bd_s]
        by_cases p0 : p = 0
        · rw [if_pos (by rw [p0]; decide), b1]
        · rw [if_neg (by rw [zi_z (by omega)]; exact p0), if_neg (nI_ge (by omega) (by omega)), b1]
      · have : j = 6 := by omega
        subst this
        rw [if_pos (by decide), b1]
    · rw [ef, b2, MO_45_0]
  · refine Or.inr ?_
    have p0 : p ≠ 0 := fun z => hp (Or.inl z)
    have pl : p ≤ left := by omega
    have ef : zfl left p = p := by unfold zfl; rw [if_neg hp]
    obtain ⟨q1, q2, q3⟩ := a5 p0
    obtain ⟨t0, ht0, et0⟩ : ∃ t, t < 6 ∧ ztv c t = p := by
      rcases q3 with q3 | ⟨t, -, ht, et⟩
      · exact absurd q3 p0
      · exact ⟨t, ht, et⟩
    have hcn : 0 < zcn c := by
      have : 0 < (if ztv c 0 = 0 then 0 else 1) + (if ztv c 1 = 0 then 0 else 1) + (if ztv c 2 = 0 then 0 else 1) + (if ztv c 3 = 0 then 0 else 1) + (if ztv c 4 = 0 then 0 else 1) + (if ztv c 5 = 0 then 0 else 1) := by
        have := zsum_lt (f := fun j => if ztv c j = 0 then 0 else 1) (g := fun _ => 0) ht0 (fun _ _ => Nat.zero_le _) (by show 0 < (if ztv c t0 = 0 then 0 else 1); rw [if_neg (by omega)]; decide)
        omega
      exact this
    obtain ⟨k', rfl⟩ : ∃ k', k = k' + 1 := ⟨k - 1, by omega⟩
    have h6 : j < 6 := by omega
    obtain ⟨c', r', q, x4', b1, b2, b3, b4, b5, b6, b7, b8, b9⟩ := zlower (m := m) (d := d) (e := e) (w := w) (v := v) (by_ := p) (k45 := MO_tick_45 (mm + 1)) (x2 := nI left) (by omega) 6 3 0 0 x B 0 c r (by decide) hT (by omega) (fun i hi => (q1 i (Nat.zero_le _) hi).imp id Or.inl)
    have b1' : RO_lowerTimeouts_f (nI p) (zC c m d w) = some (nI (0 + q), zC c' m d w) := b1
    have b2' : MO_tick_117 (MO_tick_45 (mm + 1)) 10 (nI left) (nI x) 0 (nI p) 0 (zR r m e v) = MO_tick_117 (MO_tick_45 (mm + 1)) 4 (nI left) (nI (x + q)) x4' (nI p) (nI 6) (zR r' m e v) := b2
    have x41 : x4' = 1 := b8 ⟨t0, Nat.zero_le _, ht0, by omega⟩
    refine ⟨c', r', k', left - p, x + q, rfl, ?_, ?_, zTx_up b3 (by omega), b6, by omega, zcn_lt b5 ht0 et0 p0⟩
    · rw [if_neg (zn6 h6), a1', zz_bd_s, if_neg (by rw [zi_z (by omega)]; exact p0), if_pos (nI_le pl (by omega)), b1', zz_bd_s, zz_nm_e, zz_nm_e, nI_add, Nat.zero_add, zi_sub pl, nI_1]
      rfl
    · rw [ef, b2', x41, MO_117_e (by omega) pl, if_neg (by decide)]
theorem ztick {m : zM} {d e : Nat} {w v : Nat → Int32} : ∀ (cnt k n mm j left x B : Nat) (c r : zz_S), zcn c ≤ cnt → zcn c ≤ k → j + k = 6 → zTx B 6 c r → left ≤ 100000 → B + 6 * (cnt + 1) < 2147483000 → ∃ c' r' b, RO_passTicks_7 (n + k + 1) (nI left) (nI x) (nI j) (zC c m d w) = some (nI b, zC c' m d w) ∧ MO_tick_45 (mm + cnt + 2) (nI left) (nI x) (if left = 0 then 0 else 1) (zR r m e v) = some (nI b, zR r' m e v) ∧ zTx (B + 6 * (cnt + 1)) 6 c' r' ∧ zz_sg r' 0 = zz_sg r 0 := by
  intro cnt
  induction cnt with
  | zero =>
    intro k n mm j left x B c r hc hk hj hT hl hB
    by_cases l0 : left = 0
    · subst l0
      exact ⟨c, r, x, zt_A hT hj, by rw [if_pos rfl]; exact MO_45_0, zTx_up hT (by omega), rfl⟩
    · rw [if_neg l0]
      rcases zt_round (m := m) (d := d) (e := e) (w := w) (v := v) (n := n) (mm := mm + 0) (x := x) hj hk hT hl l0 (by omega) with ⟨c', r', b, b1, b2, b3, b4⟩ | ⟨c', r', k', left', x', -, -, -, -, -, -, hcn⟩
      · exact ⟨c', r', b, b1, b2, zTx_up b3 (by omega), b4⟩
      · omega
  | succ cnt ih =>
    intro k n mm j left x B c r hc hk hj hT hl hB
    by_cases l0 : left = 0
    · subst l0
      exact ⟨c, r, x, zt_A hT hj, by rw [if_pos rfl]; exact MO_45_0, zTx_up hT (by omega), rfl⟩
    · rw [if_neg l0]
      rcases zt_round (m := m) (d := d) (e := e) (w := w) (v := v) (n := n) (mm := mm + (cnt + 1)) (x := x) hj hk hT hl l0 (by omega) with ⟨c', r', b, b1, b2, b3, b4⟩ | ⟨c', r', k', left', x', rfl, b1, b2, b3, b4, b5, hcn⟩
      · exact ⟨c', r', b, b1, b2, zTx_up b3 (by omega), b4⟩
      · obtain ⟨c'', r'', b, g1, g2, g3, g4⟩ := ih k' n mm (j + 1) left' x' (B + 6) c' r' (by omega) (by omega) (by omega) b3 b5 (by omega)
        refine ⟨c'', r'', b, b1.trans g1, b2.trans ?_, zTx_up g3 (by omega), g4.trans b4⟩
        rw [show mm + (cnt + 1) + 1 = mm + cnt + 2 from by omega]
        exact g2
theorem zc_tick {B : Nat} {C R : zz_S} (h : zI B C R) (hB : B < 2147480000) (x : Int32) : zr (FP_tick_f x C) (MO_tick_f x R) (zRv ze2 (B + 42)) := by
  obtain ⟨c, r, m, d, w, e, v, rfl, rfl, hm, hT⟩ := h
  unfold FP_tick_f MO_tick_f FP_tick_10 MO_tick_11 MO_tick_16 MO_tick_31 MO_tick_43
  have bad : zr (some ((Sum.inr 2 : Int32 ⊕ Nat), zC c m d w)) (zz_nm (zz_sp (zR r m e v) 0 1) fun s_5 => (if (zz_sg s_5 0) ≤ 0 then (if x ≤ 0 then (MO_tick_45 10 x (0 : Int32) (0 : Int32) s_5) else (MO_tick_45 10 x (0 : Int32) (1 : Int32) s_5)) else (if (0 : Int32) ≤ 0 then (MO_tick_45 10 (0 : Int32) (0 : Int32) (0 : Int32) s_5) else (MO_tick_45 10 (0 : Int32) (0 : Int32) (1 : Int32) s_5)))) (zRv ze2 (B + 42)) := by
    rw [zz_nm_e, if_neg (show ¬ zz_sg (zz_sp (zR r m e v) 0 1) 0 ≤ 0 from (by decide : ¬ (1 : Int32) ≤ 0)), if_pos (by decide), MO_45_0 (n := 9)]
    exact zr_ret ⟨zI_up (zI_0 hm hT 1) (by omega), Or.inr ⟨2, rfl, rfl, by decide⟩⟩
  by_cases h0 : x < 0
  · rw [if_pos h0, if_pos h0]
    exact bad
  · rw [if_neg h0, if_neg h0]
    by_cases h5 : x ≤ 100000
    · rw [if_pos h5, if_pos h5, zz_nm_e, if_pos (show zz_sg (zz_sp (zR r m e v) 0 0) 0 ≤ 0 from (by decide : (0 : Int32) ≤ 0))]
      obtain ⟨N, hN, rfl⟩ := nI_of2 (M := 100000) (n := 100000) (by decide) h0 h5
      have hcn := zcn_le c
      obtain ⟨c', r', b, g1, g2, g3, g4⟩ := ztick (m := m) (d := d) (e := e) (w := w) (v := v) 6 6 3 2 0 N 0 B c (zz_sp r 0 0) hcn hcn (by decide) hT hN (by omega)
      have g1' : RO_passTicks_f (nI N) (zC c m d w) = some (nI b, zC c' m d w) := g1
      have g2' : (if nI N ≤ 0 then MO_tick_45 10 (nI N) (0 : Int32) (0 : Int32) (zz_sp (zR r m e v) 0 0) else MO_tick_45 10 (nI N) (0 : Int32) (1 : Int32) (zz_sp (zR r m e v) 0 0)) = some (nI b, zR r' m e v) := by
        rw [zR_sp0]
        by_cases n0 : N = 0
        · rw [if_pos (by rw [n0]; decide)]
          rw [if_pos n0] at g2
          exact g2
        · rw [if_neg (by rw [zi_le0 (by omega)]; exact n0)]
          rw [if_neg n0] at g2
          exact g2
      rw [g1', g2', zz_bd_s]
      exact zr_ret ⟨⟨c', r', m, d, w, e, v, rfl, rfl, hm, g3⟩, Or.inl ⟨rfl, g4⟩⟩
    · rw [if_neg h5, if_neg h5]
      exact bad
