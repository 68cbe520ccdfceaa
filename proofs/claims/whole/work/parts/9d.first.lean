/-! which one goes first -/
theorem lg_le (x y : Int64) : (0 ≤ lg_cmp x y) = (y ≤ x) := by
  unfold lg_cmp
  by_cases h : x > y
  · rw [if_pos h]
    have : y ≤ x := Int64.le_of_lt h
    simp [this]
  · rw [if_neg h]
    by_cases e : x = y
    · rw [if_pos e, e]
      simp
    · rw [if_neg e]
      apply propext
      refine ⟨fun z => absurd z (by decide), fun z => ?_⟩
      exfalso
      have h1 : ¬ y.toInt < x.toInt := fun q => h (Int64.lt_iff_toInt_lt.mpr q)
      have h2 : y.toInt ≤ x.toInt := Int64.le_iff_toInt_le.mp z
      exact e (Int64.toInt_inj.mp (by omega))
theorem zn6 {i : Nat} (h : i < 6) : ¬ (6 : Int32) ≤ nI i := nI_ge (b := 6) h (by decide)
def zQ (P : Nat → Prop) (q : Option Nat) (b : Int32) : Prop := (q = none ∧ b = -1) ∨ ∃ t, t < 6 ∧ q = some t ∧ b = nI t ∧ P t
def zfB {β : Type} (R : zz_S) (x3 x4 : Int32) (S N : Option β) : Option β := (if x3 < 0 then S else (zz_gd (zz_in x4 6) (zz_gd (zz_in x3 6) (if (zz_ag R 6 x3.toNatClampNeg) < (zz_ag R 6 x4.toNatClampNeg) then S else (zz_gd (zz_in x4 6) (zz_gd (zz_in x3 6) (if (zz_ag R 6 x4.toNatClampNeg) = (zz_ag R 6 x3.toNatClampNeg) then (zz_gd (zz_in x4 6) (zz_gd (zz_in x3 6) (if 0 ≤ (lg_cmp (zz_lg R 1 x4.toNatClampNeg) (zz_lg R 1 x3.toNatClampNeg)) then N else S))) else N)))))))
theorem zsel {β : Type} {P : Nat → Prop} {C R : zz_S} (hpr : ∀ t, t < 6 → P t → zz_ag C 8 t = zz_ag R 6 t) (hord : ∀ t u, t < 6 → u < 6 → P t → P u → (zz_ag C 14 u ≤ zz_ag C 14 t ↔ zz_lg R 1 u ≤ zz_lg R 1 t)) {q : Option Nat} {b : Int32} (hq : zQ P q b) {i : Nat} (hi : i < 6) (hp : P i) (k5 : Int32 → Int32 → Option Nat → Int32 → zz_S → Option (Option Nat × zz_S)) (x1 x2 : Int32) (S N : Option β) : (RO_firstAt_44 k5 x1 x2 q (nI i) i 1 C = k5 x1 x2 (some i) (nI i + 1) C ∧ zfB R b (nI i) S N = S) ∨ (RO_firstAt_44 k5 x1 x2 q (nI i) i 1 C = k5 x1 x2 q (nI i + 1) C ∧ zfB R b (nI i) S N = N) := by
  unfold RO_firstAt_44 zfB RO_firstAt_64 RO_firstAt_67
  rw [if_neg (by decide : ¬ (1 : Int32) = 0)]
  rcases hq with ⟨rfl, rfl⟩ | ⟨t, ht, rfl, rfl, pt⟩
  · exact Or.inl ⟨rfl, if_pos (by decide)⟩
  · rw [zz_oc_s, zz_lt6 ht, zz_gd_t, if_neg (nI_pos (by omega)), zi_in (by decide) hi, zi_in (by decide) ht, nI_clamp (show t < 2 ^ 31 by omega), nI_clamp (show i < 2 ^ 31 by omega), ← hpr i hi hp, ← hpr t ht pt]
    simp only [zz_gd_t, lg_le]
    unfold TA_goesAhead_f
    by_cases a : zz_ag C 8 i = zz_ag C 8 t
    · rw [if_pos a, if_pos a, a, if_neg (Int32.lt_irrefl)]
      by_cases o : zz_ag C 14 t ≤ zz_ag C 14 i
      · rw [if_pos o, if_pos ((hord i t hi ht hp pt).mp o)]
        exact Or.inr ⟨rfl, rfl⟩
      · rw [if_neg o, if_neg (fun z => o ((hord i t hi ht hp pt).mpr z))]
        exact Or.inl ⟨rfl, rfl⟩
    · rw [if_neg a, if_neg a]
      by_cases o : zz_ag C 8 i ≤ zz_ag C 8 t
      · rw [if_pos o, if_neg (Int32.not_lt.mpr o)]
        exact Or.inr ⟨rfl, rfl⟩
      · rw [if_neg o, if_pos (Int32.not_le.mp o)]
        exact Or.inl ⟨rfl, rfl⟩
theorem zQ_none {P : Nat → Prop} : zQ P none (-1) := Or.inl ⟨rfl, rfl⟩
theorem zQ_some {P : Nat → Prop} {t : Nat} (ht : t < 6) (p : P t) : zQ P (some t) (nI t) := Or.inr ⟨t, ht, rfl, rfl, p⟩
theorem RO_first_s (n : Nat) (x1 x2 : Int32) (q : Option Nat) {i : Nat} (hi : i < 6) (C : zz_S) : RO_firstAt_5 (n + 1) x1 x2 q (nI i) C = (if (zz_ag C 7 i) = x1 then (if (zz_ag C 11 i) = x2 then (RO_firstAt_44 (RO_firstAt_5 n) x1 x2 q (nI i) i (1 : Int32) C) else RO_firstAt_5 n x1 x2 q (nI (i + 1)) C) else RO_firstAt_5 n x1 x2 q (nI (i + 1)) C) := by
  show RO_firstAt_5b (RO_firstAt_5 n) x1 x2 q (nI i) C = _
  unfold RO_firstAt_5b
  rw [if_neg (zn6 hi), zi_in (by decide) hi, zz_gd_t, zz_nm_e, nI_clamp (by omega)]
  unfold RO_firstAt_43 RO_firstAt_44 RO_firstAt_67
  rw [if_pos rfl, nI_1]
theorem zfirst {P : Nat → Prop} {x1 x2 : Int32} {C R : zz_S} (hC : ∀ t, t < 6 → ((zz_ag C 7 t = x1 ∧ zz_ag C 11 t = x2) ↔ P t)) (hR : ∀ t, t < 6 → (zz_ag R 5 t = 1 ↔ P t)) (hpr : ∀ t, t < 6 → P t → zz_ag C 8 t = zz_ag R 6 t) (hord : ∀ t u, t < 6 → u < 6 → P t → P u → (zz_ag C 14 u ≤ zz_ag C 14 t ↔ zz_lg R 1 u ≤ zz_lg R 1 t)) : ∀ (k n i : Nat) (q : Option Nat) (b : Int32), i + k = 6 → zQ P q b → ∃ q' b', RO_firstAt_5 (n + k + 1) x1 x2 q (nI i) C = some (q', C) ∧ MO_first_4 (n + k + 1) b (nI i) R = some (b', R) ∧ zQ P q' b' := by
  intro k
  induction k with
  | zero =>
    intro n i q b hi hq
    have : i = 6 := by omega
    subst this
    refine ⟨q, b, ?_, ?_, hq⟩
    · show RO_firstAt_5b (RO_firstAt_5 (n + 0)) x1 x2 q (nI 6) C = _
      unfold RO_firstAt_5b
      rw [if_pos (by decide)]
    · show MO_first_4b (MO_first_4 (n + 0)) b (nI 6) R = _
      unfold MO_first_4b
      rw [if_pos (by decide)]
  | succ k ih =>
    intro n i q b hi hq
    have hi6 : i < 6 := by omega
    have hn : n + (k + 1) = n + k + 1 := rfl
    rw [hn, RO_first_s _ _ _ _ hi6]
    have e2 : MO_first_4 (n + k + 1 + 1) b (nI i) R = if zz_ag R 5 i = 1 then zfB R b (nI i) (MO_first_4 (n + k + 1) (nI i) (nI (i + 1)) R) (MO_first_4 (n + k + 1) b (nI (i + 1)) R) else MO_first_4 (n + k + 1) b (nI (i + 1)) R := by
      show MO_first_4b (MO_first_4 (n + k + 1)) b (nI i) R = _
      unfold MO_first_4b MO_first_73 MO_first_75 zfB
      rw [if_neg (zn6 hi6), zi_in (by decide) hi6, zz_gd_t, nI_1, nI_clamp (show i < 2 ^ 31 by omega)]
    rw [e2]
    by_cases p : P i
    · obtain ⟨p1, p2⟩ := (hC i hi6).mpr p
      rw [if_pos p1, if_pos p2, if_pos ((hR i hi6).mpr p)]
      rcases zsel hpr hord hq hi6 p (RO_firstAt_5 (n + k + 1)) x1 x2 (MO_first_4 (n + k + 1) (nI i) (nI (i + 1)) R) (MO_first_4 (n + k + 1) b (nI (i + 1)) R) with ⟨y1, y2⟩ | ⟨y1, y2⟩
      · rw [y1, y2, nI_1]
        exact ih n (i + 1) _ _ (by omega) (zQ_some hi6 p)
      · rw [y1, y2, nI_1]
        exact ih n (i + 1) _ _ (by omega) hq
    · rw [if_neg (fun z => p ((hR i hi6).mp z))]
      have e1 : (if zz_ag C 7 i = x1 then if zz_ag C 11 i = x2 then RO_firstAt_44 (RO_firstAt_5 (n + k + 1)) x1 x2 q (nI i) i 1 C else RO_firstAt_5 (n + k + 1) x1 x2 q (nI (i + 1)) C else RO_firstAt_5 (n + k + 1) x1 x2 q (nI (i + 1)) C) = RO_firstAt_5 (n + k + 1) x1 x2 q (nI (i + 1)) C := by
        by_cases a : zz_ag C 7 i = x1
        · rw [if_pos a, if_neg (fun z => p ((hC i hi6).mp ⟨a, z⟩))]
        · rw [if_neg a]
      rw [e1]
      exact ih n (i + 1) _ _ (by omega) hq
/-- the same, where the reference leaves out those that it has woken -/
theorem zwoke {R : zz_S} {W : Nat} (hW : zz_sg R 9 = nI W) (hW6 : W ≤ 6) {i : Nat} (hi : i < 6) (k5 : Int32 → Int32 → Int32 → Int32 → zz_S → Option (Int32 × zz_S)) (x1 x2 x3 : Int32) : ∀ (k n j : Nat) (x5 : Int32), j + k = W → ∃ y : Int32, (y = 0 ∨ y = 1) ∧ MO_firstOf_48 k5 (n + k + 1) x1 x2 x3 (nI i) x5 (nI j) R = (if y = 0 then k5 x1 x2 x3 (nI (i + 1)) R else zfB R x3 (nI i) (k5 x1 x2 (nI i) (nI (i + 1)) R) (k5 x1 x2 x3 (nI (i + 1)) R)) ∧ (y ≠ 0 ↔ x5 ≠ 0 ∧ ∀ l, j ≤ l → l < W → zz_ag R 17 l ≠ nI i) := by
  intro k
  induction k with
  | zero =>
    intro n j x5 hj
    have : j = W := by omega
    subst this
    refine ⟨if x5 = 0 then 0 else 1, by split <;> simp, ?_, ?_⟩
    · show MO_firstOf_48b k5 (MO_firstOf_48 k5 (n + 0)) x1 x2 x3 (nI i) x5 (nI j) R = _
      unfold MO_firstOf_48b MO_firstOf_148 MO_firstOf_151 zfB
      rw [hW, if_pos (nI_le (Nat.le_refl _) (by omega)), nI_1]
      by_cases h : x5 = 0
      · simp [h]
      · simp [h]
    · by_cases h : x5 = 0
      · simp [h]
      · simp only [h, if_false]
        refine ⟨fun _ => ⟨fun z => h z, fun l a b => by omega⟩, fun _ => by decide⟩
  | succ k ih =>
    intro n j x5 hj
    have hn : n + (k + 1) + 1 = n + k + 1 + 1 := rfl
    rw [hn]
    show ∃ y, _ ∧ MO_firstOf_48b k5 (MO_firstOf_48 k5 (n + k + 1)) x1 x2 x3 (nI i) x5 (nI j) R = _ ∧ _
    unfold MO_firstOf_48b MO_firstOf_78 MO_firstOf_79
    rw [hW, if_neg (nI_ge (a := j) (b := W) (by omega) (by omega)), zi_in (by decide) (show j < 6 by omega), zz_gd_t, nI_clamp (show j < 2 ^ 31 by omega), nI_1]
    by_cases h : x5 = 0
    · rw [if_pos h]
      obtain ⟨y, y0, y1, y2⟩ := ih n (j + 1) 0 (by omega)
      exact ⟨y, y0, y1, y2.trans ⟨fun z => absurd rfl z.1, fun z => absurd h z.1⟩⟩
    · rw [if_neg h]
      by_cases a : zz_ag R 17 j = nI i
      · rw [if_pos a]
        obtain ⟨y, y0, y1, y2⟩ := ih n (j + 1) 0 (by omega)
        exact ⟨y, y0, y1, y2.trans ⟨fun z => absurd rfl z.1, fun z => absurd a (z.2 j (Nat.le_refl _) (by omega))⟩⟩
      · rw [if_neg a]
        obtain ⟨y, y0, y1, y2⟩ := ih n (j + 1) 1 (by omega)
        refine ⟨y, y0, y1, y2.trans ⟨fun z => ⟨h, fun l q1 q2 => ?_⟩, fun z => ⟨by decide, fun l q1 q2 => z.2 l (by omega) q2⟩⟩⟩
        by_cases e : l = j
        · rw [e]; exact a
        · exact z.2 l (by omega) q2
theorem zfirstOf {P : Nat → Prop} {x1 x2 y1 y2 : Int32} {C R : zz_S} {W : Nat} (hW : zz_sg R 9 = nI W) (hW6 : W ≤ 6) (hC : ∀ t, t < 6 → ((zz_ag C 7 t = x1 ∧ zz_ag C 11 t = x2) ↔ P t)) (hR : ∀ t, t < 6 → ((zz_ag R 5 t = y1 ∧ zz_ag R 10 t = y2 &&& 4095 ∧ ∀ l, l < W → zz_ag R 17 l ≠ nI t) ↔ P t)) (hpr : ∀ t, t < 6 → P t → zz_ag C 8 t = zz_ag R 6 t) (hord : ∀ t u, t < 6 → u < 6 → P t → P u → (zz_ag C 14 u ≤ zz_ag C 14 t ↔ zz_lg R 1 u ≤ zz_lg R 1 t)) : ∀ (k n i : Nat) (q : Option Nat) (b : Int32), i + k = 6 → zQ P q b → ∃ q' b', RO_firstAt_5 (n + k + 1) x1 x2 q (nI i) C = some (q', C) ∧ MO_firstOf_5 (n + k + 1) y1 y2 b (nI i) R = some (b', R) ∧ zQ P q' b' := by
  intro k
  induction k with
  | zero =>
    intro n i q b hi hq
    have : i = 6 := by omega
    subst this
    refine ⟨q, b, ?_, ?_, hq⟩
    · show RO_firstAt_5b (RO_firstAt_5 (n + 0)) x1 x2 q (nI 6) C = _
      unfold RO_firstAt_5b
      rw [if_pos (by decide)]
    · show MO_firstOf_5b (MO_firstOf_5 (n + 0)) y1 y2 b (nI 6) R = _
      unfold MO_firstOf_5b
      rw [if_pos (by decide)]
  | succ k ih =>
    intro n i q b hi hq
    have hi6 : i < 6 := by omega
    have hn : n + (k + 1) = n + k + 1 := rfl
    rw [hn, RO_first_s _ _ _ _ hi6]
    obtain ⟨y, y0, e0, hy⟩ : ∃ y, (y = 0 ∨ y = (1 : Int32)) ∧ MO_firstOf_5 (n + k + 1 + 1) y1 y2 b (nI i) R = (if y = 0 then MO_firstOf_5 (n + k + 1) y1 y2 b (nI (i + 1)) R else zfB R b (nI i) (MO_firstOf_5 (n + k + 1) y1 y2 (nI i) (nI (i + 1)) R) (MO_firstOf_5 (n + k + 1) y1 y2 b (nI (i + 1)) R)) ∧ (y ≠ 0 ↔ P i) := by
      have hw : ∀ x5 : Int32, ∃ y : Int32, (y = 0 ∨ y = 1) ∧ MO_firstOf_48 (MO_firstOf_5 (n + k + 1)) 10 y1 y2 b (nI i) x5 (nI 0) R = (if y = 0 then MO_firstOf_5 (n + k + 1) y1 y2 b (nI (i + 1)) R else zfB R b (nI i) (MO_firstOf_5 (n + k + 1) y1 y2 (nI i) (nI (i + 1)) R) (MO_firstOf_5 (n + k + 1) y1 y2 b (nI (i + 1)) R)) ∧ (y ≠ 0 ↔ x5 ≠ 0 ∧ ∀ l, 0 ≤ l → l < W → zz_ag R 17 l ≠ nI i) := by
        intro x5
        have := zwoke hW hW6 hi6 (MO_firstOf_5 (n + k + 1)) y1 y2 b W (9 - W) 0 x5 (by omega)
        rw [show 9 - W + W + 1 = 10 from by omega] at this
        exact this
      show ∃ y, _ ∧ MO_firstOf_5b (MO_firstOf_5 (n + k + 1)) y1 y2 b (nI i) R = _ ∧ _
      unfold MO_firstOf_5b MO_firstOf_42 MO_firstOf_43
      rw [if_neg (zn6 hi6), zi_in (by decide) hi6, zz_gd_t, zz_gd_t, nI_clamp (by omega)]
      by_cases a1 : zz_ag R 5 i = y1
      · rw [if_pos a1]
        by_cases a2 : zz_ag R 10 i = y2 &&& 4095
        · rw [if_pos a2]
          obtain ⟨y, h0, h1, h2⟩ := hw 1
          exact ⟨y, h0, h1, h2.trans ⟨fun z => (hR i hi6).mp ⟨a1, a2, fun l hl => z.2 l (Nat.zero_le _) hl⟩, fun z => ⟨by decide, fun l _ hl => ((hR i hi6).mpr z).2.2 l hl⟩⟩⟩
        · rw [if_neg a2]
          obtain ⟨y, h0, h1, h2⟩ := hw 0
          exact ⟨y, h0, h1, h2.trans ⟨fun z => absurd rfl z.1, fun z => absurd ((hR i hi6).mpr z).2.1 a2⟩⟩
      · rw [if_neg a1]
        obtain ⟨y, h0, h1, h2⟩ := hw 0
        exact ⟨y, h0, h1, h2.trans ⟨fun z => absurd rfl z.1, fun z => absurd ((hR i hi6).mpr z).1 a1⟩⟩
    rw [e0]
    by_cases p : P i
    · obtain ⟨p1, p2⟩ := (hC i hi6).mpr p
      rw [if_pos p1, if_pos p2, if_neg (hy.mpr p)]
      rcases zsel hpr hord hq hi6 p (RO_firstAt_5 (n + k + 1)) x1 x2 (MO_firstOf_5 (n + k + 1) y1 y2 (nI i) (nI (i + 1)) R) (MO_firstOf_5 (n + k + 1) y1 y2 b (nI (i + 1)) R) with ⟨z1, z2⟩ | ⟨z1, z2⟩
      · rw [z1, z2, nI_1]
        exact ih n (i + 1) _ _ (by omega) (zQ_some hi6 p)
      · rw [z1, z2, nI_1]
        exact ih n (i + 1) _ _ (by omega) hq
    · have hy0 : y = 0 := by
        rcases y0 with h | h
        · exact h
        · exact absurd (hy.mp (by rw [h]; decide)) p
      rw [if_pos hy0]
      have e1 : (if zz_ag C 7 i = x1 then if zz_ag C 11 i = x2 then RO_firstAt_44 (RO_firstAt_5 (n + k + 1)) x1 x2 q (nI i) i 1 C else RO_firstAt_5 (n + k + 1) x1 x2 q (nI (i + 1)) C else RO_firstAt_5 (n + k + 1) x1 x2 q (nI (i + 1)) C) = RO_firstAt_5 (n + k + 1) x1 x2 q (nI (i + 1)) C := by
        by_cases a : zz_ag C 7 i = x1
        · rw [if_pos a, if_neg (fun z => p ((hC i hi6).mp ⟨a, z⟩))]
        · rw [if_neg a]
      rw [e1]
      exact ih n (i + 1) _ _ (by omega) hq
