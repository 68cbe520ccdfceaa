/-! ticks -/
theorem zag_s (s : zz_S) (a i : Nat) (v : Int32) : zz_ag (zz_ap s a i v) a i = v := by rw [zz_ag_ap, if_pos ⟨rfl, rfl⟩]
/-- how long a process still waits -/
def ztv (c : zz_S) (i : Nat) : Nat := (zz_ag c 12 i).toNatClampNeg
theorem zTm {B i : Nat} {c r : zz_S} (h : zTx B 6 c r) (hi : i < 6) : zz_ag c 12 i = nI (ztv c i) ∧ ztv c i < 65536 ∧ ((zz_ag r 5 i = 3 ∧ zz_ag r 11 i = nI (ztv c i)) ∨ (¬ zz_ag r 5 i = 3 ∧ ztv c i = 0)) := by
  obtain ⟨⟨s, hs, e1, e2, g0, gk, ga, ga', gt, gt', gf, gf'⟩, -⟩ := h.2 i hi (by omega)
  unfold ztv
  by_cases s3 : s = 3
  · obtain ⟨t1, n, hn, en⟩ := gt s3
    rw [t1, en, nI_clamp (by omega)]
    exact ⟨rfl, hn, Or.inl ⟨by rw [e2, s3]; rfl, rfl⟩⟩
  · have t1 := gt' s3
    rw [t1]
    refine ⟨by decide, by decide, Or.inr ⟨fun z => s3 ?_, by decide⟩⟩
    rw [e2] at z
    exact (nI_eq (by omega) (by decide)).mp (z.trans (show (3 : Int32) = nI 3 from by decide))
theorem zT_tm {B i n : Nat} {c r : zz_S} (h : zTx B 6 c r) (hi : i < 6) (h3 : zz_ag r 5 i = 3) (hn : n < 65536) : zTx B 6 (zz_ap c 12 i (nI n)) (zz_ap r 11 i (nI n)) := by
  have hc3 : zz_ag c 7 i = 3 := (zTx_st h hi).trans h3
  have ho := zTx_ord h hi (Or.inr (Or.inr hc3))
  have hO := zOc_ap (t := i) 12 (nI n) c (by decide)
  refine zTx_in (zTx_eq (zTx_off (t := i) (t' := i) h) hO (zOr_ap 11 (nI n) r (by decide)) h.1 (Int.le_refl _) (Int.le_refl _)) ?_ (fun _ => ⟨?_, ho.2.1, fun u hu hne lu => ?_⟩)
  · obtain ⟨⟨s, hs, e1, e2, g0, gk, ga, ga', gt, gt', gf, gf'⟩, -⟩ := h.2 i hi (by omega)
    have s3 : s = 3 := by
      rw [e2] at h3
      exact (nI_eq (by omega) (by decide)).mp (h3.trans (show (3 : Int32) = nI 3 from by decide))
    refine ⟨s, hs, ?_, ?_, fun z => by omega, fun z => zk_eq (gk z) ?_ ?_ ?_ ?_ ?_ ?_ ?_ ?_, fun z => ⟨?_, ?_⟩, fun z => absurd (Or.inr s3) z, fun z => ⟨?_, ?_⟩, fun z => absurd s3 z, fun z => by omega, fun z => ?_⟩
    · rw [zz_ag_ap, if_neg (fun z => by omega)]; exact e1
    · rw [zz_ag_ap, if_neg (fun z => by omega)]; exact e2
    · rw [zz_ag_ap, if_neg (fun z => by omega)]
    · rw [zz_ag_ap, if_neg (fun z => by omega)]
    · rw [zz_ag_ap, if_neg (fun z => by omega)]
    · intro j hj; rw [zz_ag_ap, if_neg (fun z => by omega)]
    · rw [zz_ag_ap, if_neg (fun z => by omega)]
    · rw [zz_ag_ap, if_neg (fun z => by omega)]
    · rw [zz_ag_ap, if_neg (fun z => by omega)]
    · intro j hj; rw [zz_ag_ap, if_neg (fun z => by omega)]
    · rw [zz_ag_ap, if_neg (fun z => by omega), zz_ag_ap, if_neg (fun z => by omega)]; exact (ga z).1
    · rw [zz_ag_ap, if_neg (fun z => by omega)]; exact (ga z).2
    · rw [zz_ag_ap, if_pos ⟨rfl, rfl⟩, zz_ag_ap, if_pos ⟨rfl, rfl⟩]
    · rw [zz_ag_ap, if_pos ⟨rfl, rfl⟩]; exact ⟨n, hn, rfl⟩
    · rw [zz_ag_ap, if_neg (fun z => by omega)]; exact gf' z
  · show (zz_ag (zz_ap c 12 i (nI n)) 14 i).toInt ≤ _
    rw [zz_ag_ap, if_neg (fun z => by omega)]
    exact ho.1
  · have lu' : zlv c u := by
      unfold zlv at lu ⊢
      rw [(hO u hu hne).1.1] at lu
      exact lu
    have q := ho.2.2 u hu hne lu'
    unfold zsC at q ⊢
    rw [zz_ag_ap, if_neg (fun z => by omega), zz_ag_ap, if_neg (fun z => by omega)]
    exact q
theorem ztv_ap (c : zz_S) (i n j : Nat) (hn : n < 2 ^ 31) : ztv (zz_ap c 12 i (nI n)) j = if j = i then n else ztv c j := by
  unfold ztv
  rw [zz_ag_ap]
  by_cases h : j = i
  · rw [if_pos ⟨rfl, h⟩, if_pos h, nI_clamp hn]
  · rw [if_neg (fun z => h z.2), if_neg h]
theorem ztv_E (c : zz_S) (i j : Nat) : ztv (zcE i 1 c) j = if j = i then 0 else ztv c j := by
  unfold ztv
  by_cases h : j = i
  · rw [if_pos h, h]
    simp [zcE, zz_ag_ap]
  · rw [if_neg h]
    simp [zcE, zz_ag_ap, zz_ag_sp, h]
theorem MO_ready_R {t : Nat} (ht : t < 6) (c : zz_S) (m : zM) (d : Nat) (w : Nat → Int32) : MO_ready_f (nI t) (zR c m d w) = some ((), zR (zrR t c) m d w) := by rw [MO_ready_p ht, zrR_R]
/-- both lower what is left -/
theorem zlower {m : zM} {d e : Nat} {w v : Nat → Int32} {by_ : Nat} {k45 : Int32 → Int32 → Int32 → zz_S → Option (Int32 × zz_S)} {x2 : Int32} (hby : by_ < 2 ^ 31) : ∀ (k n i x y B : Nat) (x4 : Int32) (c r : zz_S), i + k = 6 → zTx B 6 c r → B + k < 2147483000 → (∀ j, j < 6 → ztv c j = 0 ∨ by_ ≤ ztv c j ∨ j < i) → ∃ c' r' q x4', RO_lowerTimeouts_4 (n + k + 1) (nI by_) (nI x) (nI i) (zC c m d w) = some (nI (x + q), zC c' m d w) ∧ MO_tick_117 k45 (n + k + 1) x2 (nI y) x4 (nI by_) (nI i) (zR r m e v) = MO_tick_117 k45 (n + 1) x2 (nI (y + q)) x4' (nI by_) (nI 6) (zR r' m e v) ∧ zTx (B + q) 6 c' r' ∧ q ≤ k ∧ (∀ j, j < 6 → ztv c' j = if i ≤ j then ztv c j - by_ else ztv c j) ∧ zz_sg r' 0 = zz_sg r 0 ∧ (x4' = x4 ∨ x4' = 1) ∧ ((∃ j, i ≤ j ∧ j < 6 ∧ ztv c j ≠ 0) → x4' = 1) ∧ ((∀ j, i ≤ j → j < 6 → ztv c j = 0) → x4' = x4) := by
  intro k
  induction k with
  | zero =>
    intro n i x y B x4 c r hi hT hB hle
    have : i = 6 := by omega
    subst this
    refine ⟨c, r, 0, x4, ?_, rfl, hT, Nat.le_refl _, fun j hj => by rw [if_neg (by omega)], rfl, Or.inl rfl, fun ⟨j, a, b, _⟩ => by omega, fun _ => rfl⟩
    show RO_lowerTimeouts_4b (RO_lowerTimeouts_4 (n + 0)) (nI by_) (nI x) (nI 6) (zC c m d w) = _
    unfold RO_lowerTimeouts_4b
    rw [if_pos (by decide)]
    rfl
  | succ k ih =>
    intro n i x y B x4 c r hi hT hB hle
    have h6 : i < 6 := by omega
    obtain ⟨tv1, tv2, tv3⟩ := zTm hT h6
    have eC : RO_lowerTimeouts_4 (n + (k + 1) + 1) (nI by_) (nI x) (nI i) (zC c m d w) = if ztv c i = 0 then RO_lowerTimeouts_4 (n + k + 1) (nI by_) (nI x) (nI (i + 1)) (zC c m d w) else if ztv c i - by_ = 0 then RO_lowerTimeouts_4 (n + k + 1) (nI by_) (nI (x + 1)) (nI (i + 1)) (zC (zcE i 1 (zz_ap c 12 i (nI (ztv c i - by_)))) m d w) else RO_lowerTimeouts_4 (n + k + 1) (nI by_) (nI x) (nI (i + 1)) (zC (zz_ap c 12 i (nI (ztv c i - by_))) m d w) := by
      show RO_lowerTimeouts_4b (RO_lowerTimeouts_4 (n + k + 1)) (nI by_) (nI x) (nI i) (zC c m d w) = _
      unfold RO_lowerTimeouts_4b RO_lowerTimeouts_54
      rw [if_neg (zn6 h6), zi_in (by decide) h6, zz_gd_t, nI_clamp (by omega), zz_nm_e, zC_ag12, tv1, nI_1]
      by_cases z : ztv c i = 0
      · rw [if_pos z, if_pos (by rw [z]; decide)]
      · have hle' : by_ ≤ ztv c i := by
          rcases hle i h6 with q | q | q
          · exact absurd q z
          · exact q
          · omega
        rw [if_neg z, if_neg (by rw [zi_le0 (by omega)]; exact z), zi_sub hle', zC_ap12, zz_nm_e, zC_ag12, zag_s]
        by_cases z2 : ztv c i - by_ = 0
        · rw [if_pos z2, if_pos (by rw [z2]; decide), RO_makeReady_p, zcE_C, zz_bd_s, nI_1]
        · rw [if_neg z2, if_neg (by rw [zi_z (by omega)]; exact z2)]
    have eR : MO_tick_117 k45 (n + (k + 1) + 1) x2 (nI y) x4 (nI by_) (nI i) (zR r m e v) = if ztv c i = 0 then MO_tick_117 k45 (n + k + 1) x2 (nI y) x4 (nI by_) (nI (i + 1)) (zR r m e v) else if ztv c i - by_ = 0 then MO_tick_117 k45 (n + k + 1) x2 (nI (y + 1)) 1 (nI by_) (nI (i + 1)) (zR (zrR i (zz_ap r 11 i (nI (ztv c i - by_)))) m e v) else MO_tick_117 k45 (n + k + 1) x2 (nI y) 1 (nI by_) (nI (i + 1)) (zR (zz_ap r 11 i (nI (ztv c i - by_))) m e v) := by
      show MO_tick_117b k45 (MO_tick_117 k45 (n + k + 1)) x2 (nI y) x4 (nI by_) (nI i) (zR r m e v) = _
      unfold MO_tick_117b MO_tick_185
      rw [if_neg (zn6 h6), zi_in (by decide) h6, zz_gd_t, nI_clamp (by omega), zR_ag5, zR_ag11, nI_1]
      rcases tv3 with ⟨s3, r11⟩ | ⟨s3, z⟩
      · rw [if_pos s3, zz_gd_t, r11]
        by_cases z : ztv c i = 0
        · rw [if_pos z, if_pos (by rw [z]; decide)]
        · have hle' : by_ ≤ ztv c i := by
            rcases hle i h6 with q | q | q
            · exact absurd q z
            · exact q
            · omega
          rw [if_neg z, if_neg (by rw [zi_z (by omega)]; exact z), zz_gd_t, zz_gd_t, zi_sub hle', zR_ap11, zz_nm_e, zz_gd_t, zR_ag11, zag_s]
          by_cases z2 : ztv c i - by_ = 0
          · rw [if_pos z2, if_pos (by rw [z2]; decide), MO_ready_R h6, zz_bd_s, nI_1]
          · rw [if_neg z2, if_neg (by rw [zi_le0 (by omega)]; exact z2)]
      · rw [if_neg s3, if_pos z]
    rw [eC, eR]
    by_cases z : ztv c i = 0
    · rw [if_pos z, if_pos z]
      obtain ⟨c', r', q, x4', a1, a2, a3, a4, a5, a6, a7, a8, a9⟩ := ih n (i + 1) x y B x4 c r (by omega) hT (by omega) (fun j hj => by
        rcases hle j hj with q | q | q
        · exact Or.inl q
        · exact Or.inr (Or.inl q)
        · exact Or.inr (Or.inr (by omega)))
      refine ⟨c', r', q, x4', a1, a2, a3, by omega, fun j hj => ?_, a6, a7, fun ⟨j, b1, b2, b3⟩ => a8 ⟨j, ?_, b2, b3⟩, fun b => a9 (fun j b1 b2 => b j (by omega) b2)⟩
      · rw [a5 j hj]
        by_cases ij : j = i
        · subst ij
          rw [if_neg (by omega), if_pos (by omega), z]; omega
        · by_cases ij2 : i ≤ j
          · rw [if_pos (by omega), if_pos ij2]
          · rw [if_neg (by omega), if_neg ij2]
      · by_cases ij : j = i
        · subst ij; exact absurd z b3
        · omega
    · rw [if_neg z, if_neg z]
      have s3 : zz_ag r 5 i = 3 := by
        rcases tv3 with ⟨s3, -⟩ | ⟨-, q⟩
        · exact s3
        · exact absurd q z
      have hT1 := zT_tm (n := ztv c i - by_) hT h6 s3 (by omega)
      by_cases z2 : ztv c i - by_ = 0
      · rw [if_pos z2, if_pos z2]
        have hk1 : zk (zz_ap c 12 i (nI (ztv c i - by_))) (zz_ap r 11 i (nI (ztv c i - by_))) i := by
          obtain ⟨⟨s, hs, e1, e2, g⟩, -⟩ := hT1.2 i h6 (by omega)
          refine g.2.1 (fun q => ?_)
          rw [zz_ag_ap, if_neg (fun z => by omega), s3, q] at e2
          exact absurd e2 (by decide)
        have hT2 := zT_ready (zTx_off (t := i) (t' := i) hT1) (by omega) hk1
        have ht2 : ∀ j, ztv (zcE i 1 (zz_ap c 12 i (nI (ztv c i - by_)))) j = if j = i then 0 else ztv c j := fun j => by
          rw [ztv_E, ztv_ap _ _ _ _ (by omega)]
          by_cases ij : j = i
          · rw [if_pos ij, if_pos ij]
          · rw [if_neg ij, if_neg ij, if_neg ij]
        obtain ⟨c', r', q, x4', a1, a2, a3, a4, a5, a6, a7, a8, a9⟩ := ih n (i + 1) (x + 1) (y + 1) (B + 1) 1 _ _ (by omega) hT2 (by omega) (fun j hj => by
          rw [ht2]
          by_cases ij : j = i
          · rw [if_pos ij]; exact Or.inl rfl
          · rw [if_neg ij]
            rcases hle j hj with q | q | q
            · exact Or.inl q
            · exact Or.inr (Or.inl q)
            · exact Or.inr (Or.inr (by omega)))
        refine ⟨c', r', q + 1, x4', ?_, ?_, ?_, by omega, fun j hj => ?_, a6, ?_, fun _ => ?_, fun b => absurd (b i (Nat.le_refl _) h6) z⟩
        · rw [a1, show x + 1 + q = x + (q + 1) from by omega]
        · rw [a2, show y + 1 + q = y + (q + 1) from by omega]
        · rw [show B + (q + 1) = B + 1 + q from by omega]; exact a3
        · rw [a5 j hj, ht2]
          by_cases ij : j = i
          · subst ij
            rw [if_neg (by omega), if_pos rfl, if_pos (Nat.le_refl _), z2]
          · rw [if_neg ij]
            by_cases ij2 : i ≤ j
            · rw [if_pos (by omega), if_pos ij2]
            · rw [if_neg (by omega), if_neg ij2]
        · rcases a7 with q | q <;> exact Or.inr q
        · rcases a7 with q | q <;> exact q
      · rw [if_neg z2, if_neg z2]
        have ht2 : ∀ j, ztv (zz_ap c 12 i (nI (ztv c i - by_))) j = if j = i then ztv c i - by_ else ztv c j := fun j => ztv_ap _ _ _ _ (by omega)
        obtain ⟨c', r', q, x4', a1, a2, a3, a4, a5, a6, a7, a8, a9⟩ := ih n (i + 1) x y B 1 _ _ (by omega) hT1 (by omega) (fun j hj => by
          rw [ht2]
          by_cases ij : j = i
          · exact Or.inr (Or.inr (by omega))
          · rw [if_neg ij]
            rcases hle j hj with q | q | q
            · exact Or.inl q
            · exact Or.inr (Or.inl q)
            · exact Or.inr (Or.inr (by omega)))
        refine ⟨c', r', q, x4', a1, a2, a3, by omega, fun j hj => ?_, a6, ?_, fun _ => ?_, fun b => absurd (b i (Nat.le_refl _) h6) z⟩
        · rw [a5 j hj, ht2]
          by_cases ij : j = i
          · subst ij
            rw [if_neg (by omega), if_pos rfl, if_pos (Nat.le_refl _)]
          · rw [if_neg ij]
            by_cases ij2 : i ≤ j
            · rw [if_pos (by omega), if_pos ij2]
            · rw [if_neg (by omega), if_neg ij2]
        · rcases a7 with q | q <;> exact Or.inr q
        · rcases a7 with q | q <;> exact q
