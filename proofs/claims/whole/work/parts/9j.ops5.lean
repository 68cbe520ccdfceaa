/-! all that wait at a condition; a new process -/
def zrWs : Nat → List Nat → zz_S → zz_S
  | _, [], R => R
  | W, t :: ts, R => zrWs (W + 1) ts (zrW W t R)
theorem zsum {f g : Nat → Nat} {t : Nat} (ht : t < 6) (h1 : f t = 1) (h0 : g t = 0) (h : ∀ u, u ≠ t → g u = f u) : g 0 + g 1 + g 2 + g 3 + g 4 + g 5 + 1 = f 0 + f 1 + f 2 + f 3 + f 4 + f 5 := by
  have k : ∀ u, u ≠ t → g u = f u := h
  have : t = 0 ∨ t = 1 ∨ t = 2 ∨ t = 3 ∨ t = 4 ∨ t = 5 := by omega
  rcases this with rfl | rfl | rfl | rfl | rfl | rfl
  · have := k 1 (by decide); have := k 2 (by decide); have := k 3 (by decide); have := k 4 (by decide); have := k 5 (by decide); omega
  · have := k 0 (by decide); have := k 2 (by decide); have := k 3 (by decide); have := k 4 (by decide); have := k 5 (by decide); omega
  · have := k 0 (by decide); have := k 1 (by decide); have := k 3 (by decide); have := k 4 (by decide); have := k 5 (by decide); omega
  · have := k 0 (by decide); have := k 1 (by decide); have := k 2 (by decide); have := k 4 (by decide); have := k 5 (by decide); omega
  · have := k 0 (by decide); have := k 1 (by decide); have := k 2 (by decide); have := k 3 (by decide); have := k 5 (by decide); omega
  · have := k 0 (by decide); have := k 1 (by decide); have := k 2 (by decide); have := k 3 (by decide); have := k 4 (by decide); omega
def zc1 (a : Nat) (C : zz_S) (t : Nat) : Nat := if zz_ag C 7 t = nI 3 ∧ zz_ag C 11 t = nI a then 1 else 0
def zct (a : Nat) (C : zz_S) : Nat := zc1 a C 0 + zc1 a C 1 + zc1 a C 2 + zc1 a C 3 + zc1 a C 4 + zc1 a C 5
theorem zc1_le (a : Nat) (C : zz_S) (t : Nat) : zc1 a C t ≤ 1 := by
  unfold zc1
  split <;> omega
theorem zct_le (a : Nat) (C : zz_S) : zct a C ≤ 6 := by
  have := zc1_le a C 0; have := zc1_le a C 1; have := zc1_le a C 2; have := zc1_le a C 3; have := zc1_le a C 4; have := zc1_le a C 5
  unfold zct
  omega
theorem zct_dec {a t : Nat} {C : zz_S} (ht : t < 6) (h : zz_ag C 7 t = nI 3 ∧ zz_ag C 11 t = nI a) : zct a (zcE t 1 C) + 1 = zct a C := by
  refine zsum (f := zc1 a C) (g := zc1 a (zcE t 1 C)) ht (by unfold zc1; rw [if_pos h]) ?_ (fun u hu => ?_)
  · unfold zc1
    rw [if_neg]
    intro z
    have := z.1
    simp [zcE, zz_ag_ap] at this
    exact absurd this (by decide)
  · unfold zc1
    simp [zcE, zz_ag_ap, zz_ag_sp, hu]
theorem zRl_wake {a W t : Nat} {x : Int32} {C R : zz_S} (h : zRl 3 a x W C R) (ht : t < 6) (hp : zz_ag C 7 t = nI 3 ∧ zz_ag C 11 t = nI a) : zRl 3 a x (W + 1) (zcE t 1 C) (zrW W t R) := by
  have hc : ∀ u, u < 6 → (zz_ag (zcE t 1 C) 7 u = nI 3 → u ≠ t) := fun u _ e z => by
    subst z
    simp [zcE, zz_ag_ap] at e
    exact absurd e (by decide)
  have c7 : ∀ u, u ≠ t → zz_ag (zcE t 1 C) 7 u = zz_ag C 7 u := fun u hu => by simp [zcE, zz_ag_ap, zz_ag_sp, hu]
  have c11 : ∀ u, u ≠ t → zz_ag (zcE t 1 C) 11 u = zz_ag C 11 u := fun u hu => by simp [zcE, zz_ag_ap, zz_ag_sp, hu]
  have c8 : ∀ u, zz_ag (zcE t 1 C) 8 u = zz_ag C 8 u := fun u => by simp [zcE, zz_ag_ap, zz_ag_sp]
  have c14 : ∀ u, u ≠ t → zz_ag (zcE t 1 C) 14 u = zz_ag C 14 u := fun u hu => by simp [zcE, zz_ag_ap, zz_ag_sp, hu]
  have r5 : ∀ u, zz_ag (zrW W t R) 5 u = zz_ag R 5 u := fun u => rfl
  have r6 : ∀ u, zz_ag (zrW W t R) 6 u = zz_ag R 6 u := fun u => rfl
  have r10 : ∀ u, zz_ag (zrW W t R) 10 u = zz_ag R 10 u := fun u => rfl
  have r17 : ∀ l, zz_ag (zrW W t R) 17 l = if l = W then nI t else zz_ag R 17 l := fun l => by simp [zrW, zz_ag_ap, zz_ag_sp]
  obtain ⟨h1, h2, h3⟩ := h
  refine ⟨fun u hu => ?_, fun u hu p => ?_, fun u u' hu hu' p p' => ?_⟩
  · by_cases e : u = t
    · subst e
      refine ⟨fun z => ?_, fun z => absurd rfl (hc u hu z.1)⟩
      have := z.2.2 W (by omega)
      rw [r17, if_pos rfl] at this
      exact absurd rfl this
    · rw [r5, r10, c7 u e, c11 u e, ← h1 u hu]
      refine ⟨fun z => ⟨z.1, z.2.1, fun l hl => ?_⟩, fun z => ⟨z.1, z.2.1, fun l hl => ?_⟩⟩
      · have := z.2.2 l (by omega)
        rw [r17, if_neg (by omega)] at this
        exact this
      · rw [r17]
        by_cases q : l = W
        · rw [if_pos q]
          exact fun y => e ((nI_eq (by omega) (by omega)).mp y).symm
        · rw [if_neg q]
          exact z.2.2 l (by omega)
  · have e := hc u hu p.1
    rw [c8, r6]
    rw [c7 u e, c11 u e] at p
    exact h2 u hu p
  · have e := hc u hu p.1
    have e' := hc u' hu' p'.1
    rw [c7 u e, c11 u e] at p
    rw [c7 u' e', c11 u' e'] at p'
    rw [c14 u e, c14 u' e']
    exact h3 u u' hu hu' p p'
theorem RO_wakeAll_n {a : Nat} {C : zz_S} (h : RO_firstAt_f (nI 3) (nI a) C = some (none, C)) : ∀ (k n j : Nat), j + k = 6 → RO_wakeAll_2 (n + k + 1) (nI a) (nI j) C = some ((), C) := by
  intro k
  induction k with
  | zero =>
    intro n j hj
    have : j = 6 := by omega
    subst this
    show RO_wakeAll_2b (RO_wakeAll_2 (n + 0)) (nI a) (nI 6) C = _
    unfold RO_wakeAll_2b
    rw [if_pos (by decide)]
  | succ k ih =>
    intro n j hj
    show RO_wakeAll_2b (RO_wakeAll_2 (n + k + 1)) (nI a) (nI j) C = _
    unfold RO_wakeAll_2b RO_wakeFirst_f
    have h' : RO_firstAt_f (3 : Int32) (nI a) C = some (none, C) := h
    rw [if_neg (zn6 (by omega)), h', zz_bd_s, zz_oc_n, zz_bd_s, nI_1]
    exact ih n (j + 1) (by omega)
theorem zw_all {a : Nat} {x : Int32} : ∀ (cn k n m j W : Nat) (C R : zz_S), zct a C = cn → cn ≤ k → j + k = 6 → zRl 3 a x W C R → zz_sg R 9 = nI W → zz_sg R 2 ≤ 0 → W + cn ≤ 6 → ∃ ts, RO_wakeAll_2 (n + k + 1) (nI a) (nI j) C = some ((), zfC ts C) ∧ MO_more_261 (m + cn + 1) x R = some (1, zrWs W ts R) ∧ W + ts.length ≤ 6 ∧ ∀ t, t ∈ ts → t < 6 ∧ ¬ zz_ag C 7 t = 0 := by
  intro cn
  induction cn with
  | zero =>
    intro k n m j W C R hcn hk hj hR h9 h2 hW
    obtain ⟨q, b, e1, e2, hq⟩ := zw_first hR h9 (by omega)
    rcases hq with ⟨rfl, rfl⟩ | ⟨t, ht, rfl, rfl, p⟩
    · refine ⟨[], RO_wakeAll_n e1 k n j hj, ?_, by simp; omega, fun t ht => absurd ht (List.not_mem_nil)⟩
      show MO_more_261b (MO_more_261 (m + 0)) x R = _
      unfold MO_more_261b
      have e : MO_wake_f (3 : Int32) x R = some (0, R) := MO_wake_n h2 e2
      rw [e, zz_bd_s, if_pos rfl]
      rfl
    · exfalso
      have := zct_dec ht p
      omega
  | succ cn ih =>
    intro k n m j W C R hcn hk hj hR h9 h2 hW
    obtain ⟨q, b, e1, e2, hq⟩ := zw_first hR h9 (by omega)
    rcases hq with ⟨rfl, rfl⟩ | ⟨t, ht, rfl, rfl, p⟩
    · refine ⟨[], RO_wakeAll_n e1 k n j hj, ?_, by simp; omega, fun t ht => absurd ht (List.not_mem_nil)⟩
      show MO_more_261b (MO_more_261 (m + cn + 1)) x R = _
      unfold MO_more_261b
      have e : MO_wake_f (3 : Int32) x R = some (0, R) := MO_wake_n h2 e2
      rw [e, zz_bd_s, if_pos rfl]
      rfl
    · have hd := zct_dec ht p
      obtain ⟨k', rfl⟩ : ∃ k', k = k' + 1 := ⟨k - 1, by omega⟩
      obtain ⟨ts, i1, i2, i3, i4⟩ := ih k' n m (j + 1) (W + 1) (zcE t 1 C) (zrW W t R) (by omega) (by omega) (by omega) (zRl_wake hR ht p) (by unfold zrW; rw [zz_sg_sp, if_pos rfl]) h2 (by omega)
      refine ⟨t :: ts, ?_, ?_, by simp; omega, fun u hu => ?_⟩
      · show RO_wakeAll_2b (RO_wakeAll_2 (n + k' + 1)) (nI a) (nI j) C = _
        unfold RO_wakeAll_2b RO_wakeFirst_f
        have e1' : RO_firstAt_f (3 : Int32) (nI a) C = some (some t, C) := e1
        rw [if_neg (zn6 (by omega)), e1', zz_bd_s, zz_oc_s, zz_lt6 ht, zz_gd_t, RO_makeReady_p, zz_bd_s, zz_bd_s, nI_1]
        exact i1
      · show MO_more_261b (MO_more_261 (m + cn + 1)) x R = _
        unfold MO_more_261b
        have e : MO_wake_f (3 : Int32) x R = some (1, zrW W t R) := MO_wake_s h2 h9 (by omega) ht e2
        rw [e, zz_bd_s, if_neg (by decide)]
        exact i2
      · have n0 : ¬ nI 3 = (0 : Int32) := by decide
        rcases List.mem_cons.mp hu with rfl | hu
        · exact ⟨ht, by rw [p.1]; exact n0⟩
        · obtain ⟨q1, q2⟩ := i4 u hu
          refine ⟨q1, ?_⟩
          by_cases e : u = t
          · subst e; rw [p.1]; exact n0
          · rw [show zz_ag C 7 u = zz_ag (zcE t 1 C) 7 u from by simp [zcE, zz_ag_ap, zz_ag_sp, e]]
            exact q2
theorem zL_rWs {n D : Nat} {c C : zz_S} : ∀ (ts : List Nat) (W : Nat) (r R : zz_S), zL n D c r C R → zL n D c (zrWs W ts r) C (zrWs W ts R)
  | [], _, _, _, h => h
  | t :: ts, W, r, R, h => zL_rWs ts (W + 1) _ _ (zL_rW h W t)
theorem zrWs_17 : ∀ (ts : List Nat) (W : Nat) (R : zz_S) (i : Nat), i < W → zz_ag (zrWs W ts R) 17 i = zz_ag R 17 i
  | [], _, _, _, _ => rfl
  | t :: ts, W, R, i, h => by
    show zz_ag (zrWs (W + 1) ts (zrW W t R)) 17 i = _
    rw [zrWs_17 ts (W + 1) _ i (by omega)]
    unfold zrW
    rw [zz_ag_sp, zz_ag_ap, if_neg (fun z => by omega)]
theorem zrWs_k : ∀ (ts : List Nat) (W : Nat) (R : zz_S), zz_sg R 9 = nI W → zz_sg (zrWs W ts R) 9 = nI (W + ts.length) ∧ ∀ (i : Nat) (h : i < ts.length), zz_ag (zrWs W ts R) 17 (W + i) = nI (ts[i]'h)
  | [], W, R, h => ⟨h, fun i hi => absurd hi (Nat.not_lt_zero _)⟩
  | t :: ts, W, R, h => by
    obtain ⟨h1, h2⟩ := zrWs_k ts (W + 1) (zrW W t R) (by unfold zrW; rw [zz_sg_sp, if_pos rfl])
    refine ⟨?_, fun i hi => ?_⟩
    · show zz_sg (zrWs (W + 1) ts (zrW W t R)) 9 = _
      rw [h1, List.length_cons, show W + 1 + ts.length = W + (ts.length + 1) from by omega]
    · show zz_ag (zrWs (W + 1) ts (zrW W t R)) 17 (W + i) = _
      cases i with
      | zero =>
        rw [zrWs_17 ts (W + 1) _ _ (by omega)]
        unfold zrW
        rw [zz_ag_sp, zz_ag_ap, if_pos ⟨rfl, rfl⟩]
        rfl
      | succ i =>
        have := h2 i (by simp at hi; omega)
        rw [show W + (i + 1) = W + 1 + i from by omega, this]
        rfl
theorem zrWs_wk {ts : List Nat} {R : zz_S} (h : zz_sg R 9 = 0) (hl : ts.length ≤ 6) (hm : ∀ t, t ∈ ts → t < 6) : zwk ts (zrWs 0 ts R) := by
  obtain ⟨h1, h2⟩ := zrWs_k ts 0 R h
  rw [Nat.zero_add] at h1
  refine ⟨h1, hl, fun i hi => ⟨?_, hm _ (List.getElem_mem hi)⟩⟩
  have := h2 i hi
  rw [Nat.zero_add] at this
  exact this
theorem zwk_inj {ts us : List Nat} {R : zz_S} (h : zwk ts R) (k : zwk us R) : ts = us := by
  obtain ⟨h1, h6, h2⟩ := h
  obtain ⟨k1, k6, k2⟩ := k
  have hl : ts.length = us.length := (nI_eq (by omega) (by omega)).mp (h1.symm.trans k1)
  refine List.ext_getElem hl (fun i a b => ?_)
  obtain ⟨p1, p2⟩ := h2 i a
  obtain ⟨q1, q2⟩ := k2 i b
  exact (nI_eq (by omega) (by omega)).mp (p1.symm.trans q1)
theorem zXr_Ws {t : Nat} : ∀ (ts : List Nat) (W : Nat) (r r' : zz_S), zXr t r r' → zXr t r (zrWs W ts r')
  | [], _, _, _, h => h
  | t' :: ts, W, r, r', h => zXr_Ws ts (W + 1) r _ ⟨h.1, fun a i h17 hx => (zXr_W.2.1 a i h17 hx).trans (h.2.1 a i h17 hx), h.2.2⟩
def zS44 (c r : zz_S) (b : Int32) (C R : zz_S) : Prop := b = 1 ∧ ∃ a x ts R0, a < 4096 ∧ x &&& 4095 = nI a ∧ ts.length ≤ 6 ∧ (∀ t, t ∈ ts → t < 6) ∧ zL 7 9 (zz_sp c 9 (nI a)) (zrWs 0 ts r) C R ∧ MO_more_261 10 x R0 = some (1, zrWs 0 ts R0) ∧ (∀ i, zz_ag R0 5 i = zz_ag r 5 i ∧ zz_ag R0 6 i = zz_ag r 6 i ∧ zz_ag R0 10 i = zz_ag r 10 i ∧ zz_lg R0 1 i = zz_lg r 1 i) ∧ zz_sg R0 9 = 0 ∧ zz_sg R0 2 ≤ 0
theorem zw_all0 {a : Nat} {x : Int32} {C R : zz_S} (h : zRl 3 a x 0 C R) (h9 : zz_sg R 9 = 0) (h2 : zz_sg R 2 ≤ 0) : ∃ ts, RO_wakeAll_f (nI a) C = some ((), zfC ts C) ∧ MO_more_261 10 x R = some (1, zrWs 0 ts R) ∧ ts.length ≤ 6 ∧ ∀ t, t ∈ ts → t < 6 ∧ ¬ zz_ag C 7 t = 0 := by
  have hl := zct_le a C
  obtain ⟨ts, i1, i2, i3, i4⟩ := zw_all (zct a C) 6 3 (9 - zct a C) 0 0 C R rfl hl rfl h h9 h2 (by omega)
  rw [show 9 - zct a C + zct a C + 1 = 10 from by omega] at i2
  exact ⟨ts, i1, i2, by omega, i4⟩
theorem zo_44 {B t : Nat} {fr gl : Int32} {gn fi nx n : Nat} {c r C R : zz_S} (h : zL 0 8 c r C R) (hs : zS fr gl gn fi nx n c r) (hG : zG B t fr c r) (h17 : zz_sg c 17 = 44) : zr (PR_coordinate_f C) (MO_act_46 (nI fi) 44 fr (nI n) R) (zP t c r (zS44 c r)) := by
  unfold PR_coordinate_f MO_act_46 MO_more_f
  simp (decide := true) only [zz_nm_e, zL_c17 h, h17, ↓reduceIte]
  rw [zz_bd_a]
  refine zr_bd (zL_pop h) (fun x C1 y R1 q => ?_)
  obtain ⟨q1, hw, q2⟩ := q
  obtain ⟨a, ha, ea⟩ := zWd_12 hw
  unfold ME_addressOf_f
  rw [zz_bd_s]
  have p1 := zL_sp q1 9 (x &&& 4095) rfl rfl rfl
  by_cases hf : zF C1
  · have h9 : zz_sg R1 9 = 0 := by rw [zL_r9 q1]; exact hG.2.2.2.2.2.2.2.1
    have h2 : zz_sg R1 2 ≤ 0 := by rw [zL_R1 q1]; exact hf
    obtain ⟨ts, -, e2, e3, e4⟩ := zw_all0 (zG_Rl hG q1 (s := 3) (Or.inr rfl) ea) h9 h2
    rw [e2, zz_bd_s, zz_bo_1, zz_gd_t]
    refine zr_ret ⟨fun _ => ⟨rfl, a, y, ts, R1, ha, ea, e3, fun t ht => (e4 t ht).1, ?_, e2, fun i => ⟨zL_ra5 q1 i, zL_ra6 q1 i, zL_ra10 q1 i, zL_lg q1 1 i⟩, h9, h2⟩, fun z => absurd hf z⟩
    rw [(q2 hf).2, ea] at p1
    rw [(q2 hf).2, ea]
    exact zL_up (zL_rWs ts 0 _ _ p1) (by decide) (by decide) (by decide)
  · have e : MO_more_261 10 y R1 = some (1, R1) := by
      show MO_more_261b (MO_more_261 9) y R1 = _
      unfold MO_more_261b
      have e : MO_wake_f (3 : Int32) y R1 = some (0, R1) := MO_wake_j (by rw [zL_R1 q1]; exact hf)
      rw [e, zz_bd_s, if_pos rfl]
    rw [e, zz_bd_s, zz_bo_1, zz_gd_t]
    exact zr_ret ⟨fun z => absurd z hf, fun z => ⟨_, _, zL_up p1 (by decide) (by decide) (by decide), ⟨rfl, rfl, rfl, fun _ _ => rfl⟩, zXr_refl t r⟩⟩
theorem zfree {C R : zz_S} (h : ∀ t, t < 6 → (zz_ag C 7 t = 0 ↔ zz_ag R 5 t = 0)) : ∀ (k n i : Nat), i + k = 6 → ∃ q b, RO_leastFree_2 (n + k + 1) (nI i) C = some (q, C) ∧ MO_leastFree_2 (n + k + 1) (nI i) R = some (b, R) ∧ zQ (fun t => zz_ag C 7 t = 0) q b := by
  intro k
  induction k with
  | zero =>
    intro n i hi
    have : i = 6 := by omega
    subst this
    refine ⟨none, -1, ?_, ?_, zQ_none⟩
    · show RO_leastFree_2b (RO_leastFree_2 (n + 0)) (nI 6) C = _
      unfold RO_leastFree_2b
      rw [if_pos (by decide)]
    · show MO_leastFree_2b (MO_leastFree_2 (n + 0)) (nI 6) R = _
      unfold MO_leastFree_2b MO_leastFree_23
      rw [if_pos (by decide), if_pos (by decide)]
  | succ k ih =>
    intro n i hi
    have h6 : i < 6 := by omega
    have e1 : RO_leastFree_2 (n + (k + 1) + 1) (nI i) C = if zz_ag C 7 i = 0 then some (some i, C) else RO_leastFree_2 (n + k + 1) (nI (i + 1)) C := by
      show RO_leastFree_2b (RO_leastFree_2 (n + k + 1)) (nI i) C = _
      unfold RO_leastFree_2b
      rw [if_neg (zn6 h6), zi_in (by decide) h6, zz_gd_t, zz_gd_t, nI_clamp (by omega), zz_nm_e, zz_nm_e, nI_1]
    have e2 : MO_leastFree_2 (n + (k + 1) + 1) (nI i) R = if zz_ag R 5 i = 0 then some (nI i, R) else MO_leastFree_2 (n + k + 1) (nI (i + 1)) R := by
      show MO_leastFree_2b (MO_leastFree_2 (n + k + 1)) (nI i) R = _
      unfold MO_leastFree_2b MO_leastFree_23
      rw [if_neg (zn6 h6), zi_in (by decide) h6, zz_gd_t, nI_clamp (by omega), if_neg (zn6 h6), nI_1]
    rw [e1, e2]
    by_cases p : zz_ag C 7 i = 0
    · rw [if_pos p, if_pos ((h i h6).mp p)]
      exact ⟨_, _, rfl, rfl, zQ_some h6 p⟩
    · rw [if_neg p, if_neg (fun z => p ((h i h6).mpr z))]
      exact ih n (i + 1) (by omega)
theorem zfree0 {C R : zz_S} (h : ∀ t, t < 6 → (zz_ag C 7 t = 0 ↔ zz_ag R 5 t = 0)) : ∃ q b, RO_leastFree_f C = some (q, C) ∧ MO_leastFree_f R = some (b, R) ∧ zQ (fun t => zz_ag C 7 t = 0) q b := zfree h 6 3 0 rfl
theorem zTx_st {B t : Nat} {c r : zz_S} (h : zTx B 6 c r) (ht : t < 6) : zz_ag c 7 t = zz_ag r 5 t := by
  obtain ⟨⟨s, -, e1, e2, -⟩, -⟩ := h.2 t ht (by omega)
  rw [e1, e2]
def zpc (x : Int32) (s_4 : zz_S) : Option (Unit × zz_S) := (zz_bd (FR_meant_f x s_4) fun r_9 s_8 => (zz_bd (FR_isProcedure_f r_9 s_8) fun r_11 s_10 => (if r_11 = 0 then (zz_bd (ME_fail_f (8 : Int32) s_10) fun _ s_12 => (some ((), s_12))) else (zz_bd (FR_open_f r_9 (0 : Int32) s_10) fun r_14 s_13 => (zz_nm (zz_sp s_13 11 r_14) fun s_15 => (some ((), s_15)))))))
theorem zpc_J {c : zz_S} {m : zM} {d : Nat} {w : Nat → Int32} (hm : zm_ok m) (hk : zmk m + 5 ≤ 16) (p : Int32) (hf : ¬ zmf m = 0) : ∃ c', (zz_bd (FR_isProcedure_f p (zC c m d w)) fun r_11 s_10 => (if r_11 = 0 then (zz_bd (ME_fail_f (8 : Int32) s_10) fun _ s_12 => (some ((), s_12))) else (zz_bd (FR_open_f p (0 : Int32) s_10) fun r_14 s_13 => (zz_nm (zz_sp s_13 11 r_14) fun s_15 => (some ((), s_15)))))) = some ((), zC c' m d w) ∧ zXc c c' := by
  unfold FR_isProcedure_f
  by_cases o : (p &&& 1) = 0
  · rw [if_pos o, zz_bd_s, if_pos rfl, ME_fail_e8 hm, za_fail_f hf, zz_bd_s]
    exact ⟨c, rfl, rfl, rfl, rfl, fun _ _ => rfl⟩
  · rw [if_neg o, zz_bd_s, if_neg (by decide), FR_open_e hm hk, za_open_f hf, zz_bd_s, zC_sp11, zz_nm_e]
    exact ⟨_, rfl, rfl, rfl, rfl, fun _ _ => rfl⟩
theorem za_called_odd {w1 : Nat} {m : zM} (h0 : ¬ w1 % 2 = 0) (f : Int32) : za_called (nI w1) f m = za_open ((nI w1 >>> ((5 : Int32) &&& 31)) &&& 15) ((nI w1 >>> ((1 : Int32) &&& 31)) &&& 15) f m := by
  have a : ¬ (nI w1 &&& 3) = 2 := by
    rw [zi_3]
    intro z
    have := (nI_eq (by omega) (by decide)).mp (z.trans (show (2 : Int32) = nI 2 from by decide))
    omega
  have b : ¬ (nI w1 &&& 1) = 0 := by
    rw [zi_1, zi_z (by omega)]
    omega
  have e : ¬ nI w1 = 0 := fun z => b (by rw [z]; decide)
  unfold za_called za_meant
  rw [if_neg a]
  unfold za_mt
  rw [if_neg e, if_neg a]
  unfold za_to
  rw [if_neg b]
theorem zL_begun {n D : Nat} {c r C R : zz_S} (h : zL n D c r C R) (hn : n + 5 ≤ 16) {a b : Int32} (hb : zWd b) (hab : zF C → a = b) : zr (zpc a C) (MO_begun_f b R) (fun _ C' y R' => (zF C' → zWd y ∧ zL (n + 5) D (zz_sp c 11 y) r C' R') ∧ (¬ zF C' → ∃ c', zXc c c' ∧ zL (n + 5) D c' r C' R')) := by
  obtain ⟨m, d, w, e, v, rfl, rfl, hm, hk, hd, he, h9, hs⟩ := h
  unfold zpc MO_begun_f
  rw [FR_meant_e hm, zz_bd_s]
  obtain ⟨u, e1, e2⟩ := MO_meant_r (c := r) (d := e) (w := v) hm hb
  rw [e1, zz_bd_s]
  have hmm : ∀ p, zm_ok (za_meant p m).2 := fun p => za_meant_ok hm
  have J : ∀ (m' : zM) (p u : Int32), zm_ok m' → zmk m' ≤ n → ¬ zmf m' = 0 → zr (zz_bd (FR_isProcedure_f p (zC c m' d w)) fun r_11 s_10 => (if r_11 = 0 then (zz_bd (ME_fail_f (8 : Int32) s_10) fun _ s_12 => (some ((), s_12))) else (zz_bd (FR_open_f p (0 : Int32) s_10) fun r_14 s_13 => (zz_nm (zz_sp s_13 11 r_14) fun s_15 => (some ((), s_15)))))) (if (zz_sg (zR r m' e v) 2) = 0 then (if (zz_rem u (4 : Int32)) = 0 then (zz_bd (MO_wrong_f (8 : Int32) (zR r m' e v)) fun _ s_5 => (MO_begun_25 u s_5)) else (MO_begun_25 u (zR r m' e v))) else (MO_begun_25 u (zR r m' e v))) (fun _ C' y R' => (zF C' → zWd y ∧ zL (n + 5) D (zz_sp c 11 y) r C' R') ∧ (¬ zF C' → ∃ c', zXc c c' ∧ zL (n + 5) D c' r C' R')) := by
    intro m' p u ok' k' f'
    obtain ⟨c', x1, x2⟩ := zpc_J (c := c) (d := d) (w := w) ok' (by omega) p f'
    have hL : zL (n + 5) D c' r (zC c' m' d w) (zR r m' e v) := ⟨m', d, w, e, v, rfl, rfl, ok', by omega, hd, he, h9, fun z => absurd z f'⟩
    have hf : ¬ zF (zC c' m' d w) := by rw [zF_iff ok']; exact f'
    rw [x1]
    simp only [zL_R0f hL hf, if_false]
    unfold MO_begun_25
    simp only [zL_R1f hL hf, if_false]
    exact zr_ret ⟨fun z => absurd z hf, fun _ => ⟨c', x2, hL⟩⟩
  by_cases hf : zmf m = 0
  · have := hab ((zF_iff hm).mpr hf)
    subst this
    have ok1 := za_meant_ok (x := a) hm
    have k1 := za_meant_k a m
    have g1 := za_meant_g (x := a) (m := m)
    have w1 := za_meant_w hm hb
    generalize za_meant a m = p at e2 ok1 k1 g1 w1 ⊢
    obtain ⟨p1, m1⟩ := p
    dsimp only at e2 ok1 k1 g1 w1 ⊢
    by_cases hf1 : zmf m1 = 0
    · obtain ⟨w1, hw1, rfl⟩ := w1
      have := e2 hf1
      subst this
      obtain ⟨g2, g3⟩ := g1 hf1
      rw [zi_3] at g3
      have g3' : ¬ w1 % 4 = 2 := fun z => g3 (by rw [z]; rfl)
      have hL : zL n D c r (zC c m1 d w) (zR r m1 e v) := ⟨m1, d, w, e, v, rfl, rfl, ok1, by omega, hd, he, h9, fun _ => hs hf⟩
      have hF : zF (zC c m1 d w) := (zF_iff ok1).mpr hf1
      simp only [zL_R0t hL hF, if_true]
      unfold FR_isProcedure_f
      by_cases o : w1 % 2 = 0
      · have o1 : (nI w1 &&& 1) = 0 := by rw [zi_1, o]; rfl
        have o2 : zz_rem (nI w1) (4 : Int32) = 0 := by rw [zi_r4 hw1]; omega
        rw [if_pos o1, zz_bd_s, if_pos rfl, if_pos o2]
        obtain ⟨x, C1, y, R1, y1, y2, y3, y4⟩ := zL_fail hL (e := 8) (by decide) (by decide)
        have y1' : ME_fail_f (8 : Int32) (zC c m1 d w) = some (x, C1) := y1
        have y2' : MO_wrong_f (8 : Int32) (zR r m1 e v) = some (y, R1) := y2
        rw [y1', y2', zz_bd_s, zz_bd_s]
        unfold MO_begun_25
        simp only [zL_R1f y3 y4, if_false]
        exact zr_ret ⟨fun z => absurd z y4, fun _ => ⟨c, ⟨rfl, rfl, rfl, fun _ _ => rfl⟩, zL_up y3 (by omega) (Nat.le_refl _) h9⟩⟩
      · have o1 : ¬ (nI w1 &&& 1) = 0 := by rw [zi_1, zi_z (by omega)]; omega
        have o2 : ¬ zz_rem (nI w1) (4 : Int32) = 0 := by rw [zi_r4 hw1]; omega
        rw [if_neg o1, zz_bd_s, if_neg (by decide), if_neg o2, FR_open_e ok1 (by omega), zz_bd_s, zC_sp11, zz_nm_e]
        unfold MO_begun_25
        simp only [zL_R1t hL hF, if_true]
        obtain ⟨v2, f1, f2⟩ := MO_called_r (c := r) (d := e) (w := v) ok1 (by omega) ⟨w1, hw1, rfl⟩ 0
        have hk2 := za_called_k (nI w1) 0 m1
        have ok2 := za_called_ok (x := nI w1) (f := 0) ok1
        have ww := za_called_w (f := 0) ok1 ⟨w1, hw1, rfl⟩
        rw [za_called_odd o] at f1 f2 hk2 ok2 ww
        rw [f1, zz_bd_s]
        generalize za_open ((nI w1 >>> ((5 : Int32) &&& 31)) &&& 15) ((nI w1 >>> ((1 : Int32) &&& 31)) &&& 15) 0 m1 = z at f2 hk2 ok2 ww ⊢
        obtain ⟨z1, m2⟩ := z
        dsimp only at f2 hk2 ok2 ww ⊢
        have hL2 : zL (n + 5) D (zz_sp c 11 z1) r (zC (zz_sp c 11 z1) m2 d w) (zR r m2 e v) := ⟨m2, d, w, e, v, rfl, rfl, ok2, by omega, hd, he, h9, fun _ => hs hf⟩
        refine zr_ret ⟨fun q => ?_, fun q => ⟨zz_sp c 11 z1, ⟨rfl, rfl, rfl, fun _ _ => rfl⟩, hL2⟩⟩
        rw [f2 ((zF_iff ok2).mp q)]
        exact ⟨ww, hL2⟩
    · exact J m1 p1 u ok1 (by omega) hf1
  · have q1 : (za_meant a m).2 = m := za_meant_f hf
    have q2 : (za_meant b m).2 = m := za_meant_f hf
    rw [q1, q2]
    exact J m (za_meant a m).1 u hm hk hf
def zS31 (c r : zz_S) (b : Int32) (C R : zz_S) : Prop := b = 1 ∧ ∃ j f p, j < 6 ∧ zWd f ∧ zz_ag c 7 j = 0 ∧ zL 7 9 (zz_sp (zz_qp (zz_sp c 12 (p &&& 7)) 1 (some j)) 11 f) (zz_sp (zz_sp (zz_sp r 11 (nI j)) 12 f) 13 p) C R
theorem zXr_f {t : Nat} {r : zz_S} {a b c : Int32} : zXr t r (zz_sp (zz_sp (zz_sp r 11 a) 12 b) 13 c) := ⟨rfl, fun _ _ _ _ => rfl, fun _ _ => rfl, rfl⟩
theorem zL_f3 {n D : Nat} {c r C R : zz_S} (h : zL n D c r C R) (a b p : Int32) : zL n D c (zz_sp (zz_sp (zz_sp r 11 a) 12 b) 13 p) C (zz_sp (zz_sp (zz_sp R 11 a) 12 b) 13 p) := zL_rsp (zL_rsp (zL_rsp h 11 a rfl rfl rfl) 12 b rfl rfl rfl) 13 p rfl rfl rfl
theorem zo_31 {B t : Nat} {fr gl : Int32} {gn fi nx n : Nat} {c r C R : zz_S} (h : zL 0 8 c r C R) (hs : zS fr gl gn fi nx n c r) (hG : zG B t fr c r) (h17 : zz_sg c 17 = 31) : zr (PR_transfer_f C) (MO_act_46 (nI fi) 31 fr (nI n) R) (zP t c r (zS31 c r)) := by
  obtain ⟨⟨ht, hq, h9, h3, h7⟩, hT, hst, -⟩ := hG
  unfold PR_transfer_f MO_act_46 MO_more_f MO_fork_f
  simp (decide := true) only [zz_nm_e, zL_c17 h, h17, ↓reduceIte]
  obtain ⟨q, b, f1, f2, hqb⟩ := zfree0 (C := c) (R := R) (fun t ht => by rw [zL_ra5 h, zTx_st hT ht])
  rw [f2, zz_bd_s, zz_bd_a, zz_bd_a]
  refine zr_bd (zL_pop h) (fun x C1 y R1 p => ?_)
  obtain ⟨p1, pw, p2⟩ := p
  rw [zz_bd_a]
  refine zr_bd (zL_pop p1) (fun x2 C2 y2 R2 k => ?_)
  obtain ⟨k1, kw, k2⟩ := k
  unfold PR_prepareChild_f
  have k3 := zL_sp k1 12 (x2 &&& 7) rfl rfl rfl
  obtain ⟨q', b', g1, g2, hqb'⟩ := zfree0 (C := zz_sp C2 12 (x2 &&& 7)) (R := R) (fun t ht => by rw [zL_ra5 h, zL_ca7 k3]; show zz_ag c 7 t = 0 ↔ _; rw [zTx_st hT ht])
  have eb : b' = b := by rw [f2] at g2; exact (Prod.mk.inj (Option.some.inj g2)).1.symm
  subst eb
  rw [zz_nm_e, g1, zz_bd_s, zz_nm_e]
  have k4 := zL_qp k3 1 q'
  rw [show zz_qg (zz_qp (zz_sp C2 12 (x2 &&& 7)) 1 q') 1 = q' from rfl]
  rcases hqb' with ⟨rfl, rfl⟩ | ⟨j, hj, rfl, rfl, hj7⟩
  · rw [zz_oc_n]
    by_cases hf : zF C2
    · obtain ⟨a, C3, b, R3, y1, y2', y3, y4⟩ := zL_fail k4 (e := 8) (by decide) (by decide)
      have y1' : ME_fail_f (8 : Int32) (zz_qp (zz_sp C2 12 (x2 &&& 7)) 1 none) = some (a, C3) := y1
      have y2'' : MO_wrong_f (8 : Int32) R2 = some (b, R3) := y2'
      simp only [zL_R0t k4 hf, if_true]
      rw [if_neg (by decide), y1', y2'', zz_bd_s, zz_bd_s, zz_bd_s]
      unfold MO_fork_32 MO_fork_48
      simp only [zL_R1f y3 y4, if_false, zz_nm_e, zz_bd_s, zz_bo_1, zz_gd_t]
      exact zr_ret ⟨fun z => absurd z y4, fun _ => ⟨_, _, zL_up (zL_f3 y3 _ _ _) (by decide) (by decide) (by decide), ⟨rfl, rfl, rfl, fun _ _ => rfl⟩, zXr_f⟩⟩
    · have y1 : ME_fail_f (8 : Int32) (zz_qp (zz_sp C2 12 (x2 &&& 7)) 1 none) = some ((), zz_qp (zz_sp C2 12 (x2 &&& 7)) 1 none) := zL_failJ k4 hf 8
      simp only [zL_R0f k4 hf, if_false]
      rw [y1, zz_bd_s, zz_bd_s]
      unfold MO_fork_32 MO_fork_48
      simp only [zL_R1f k4 hf, if_false, zz_nm_e, zz_bd_s, zz_bo_1, zz_gd_t]
      exact zr_ret ⟨fun z => absurd z hf, fun _ => ⟨_, _, zL_up (zL_f3 k4 _ _ _) (by decide) (by decide) (by decide), ⟨rfl, rfl, rfl, fun _ _ => rfl⟩, zXr_f⟩⟩
  · rw [zz_oc_s, zz_lt6 hj, zz_gd_t, if_pos (nI_pos' (show j < 2 ^ 31 by omega))]
    rw [show (if zz_sg R2 2 = 0 then MO_fork_32 (nI j) y y2 R2 else MO_fork_32 (nI j) y y2 R2) = MO_fork_32 (nI j) y y2 R2 from by split <;> rfl]
    have hc7 : zz_ag c 7 j = 0 := by
      rw [zL_ca7 k3] at hj7
      exact hj7
    obtain ⟨a, C3, b, R3, z1, z2, z3, z4⟩ := zL_begun k4 (by decide) pw (fun z => (p2 (k2 z).1).2)
    have z1' : zpc x (zz_qp (zz_sp C2 12 (x2 &&& 7)) 1 (some j)) = some ((), C3) := z1
    unfold zpc at z1'
    rw [z1', zz_bd_s]
    unfold MO_fork_32 MO_fork_48
    by_cases hf : zF C2
    · simp only [zL_R1t k4 hf, if_true]
      rw [z2]
      simp only [zz_nm_e, zz_bd_s, zz_bo_1, zz_gd_t]
      refine zr_ret ⟨fun z => ⟨rfl, j, b, y2, hj, (z3 z).1, hc7, ?_⟩, fun z => ?_⟩
      · have z5 := (z3 z).2
        rw [(k2 hf).2] at z5
        exact zL_up (zL_f3 z5 _ _ _) (by decide) (by decide) (by decide)
      · obtain ⟨c', x1, z5⟩ := z4 z
        exact ⟨c', _, zL_up (zL_f3 z5 _ _ _) (by decide) (by decide) (by decide), ⟨x1.1, x1.2.1, x1.2.2.1, x1.2.2.2⟩, zXr_f⟩
    · simp only [zL_R1f k4 hf, if_false, zz_nm_e, zz_bd_s, zz_bo_1, zz_gd_t]
      have hR : R3 = R2 ∧ ¬ zF C3 := by
        obtain ⟨m, d, w, e, v, e1, e2, hm, hk, -⟩ := k4
        have hfm : ¬ zmf m = 0 := by
          have : ¬ zF (zz_qp (zz_sp C2 12 (x2 &&& 7)) 1 (some j)) := hf
          rw [e1, zF_iff hm] at this
          exact this
        constructor
        · obtain ⟨u, u1, u2⟩ := MO_meant_r (c := r) (d := e) (w := v) hm pw
          rw [za_meant_f hfm] at u1
          rw [e2] at z2 ⊢
          unfold MO_begun_f MO_begun_25 at z2
          rw [u1, zz_bd_s, if_neg (by rw [zR_sg2, zm_f0 hm]; exact hfm), if_neg (by rw [zR_sg2, zm_f1 hm]; exact hfm)] at z2
          exact (Prod.mk.inj (Option.some.inj z2)).2.symm
        · rw [e1] at z1
          unfold zpc at z1
          rw [FR_meant_e hm, za_meant_f hfm, zz_bd_s] at z1
          obtain ⟨c', o1, o2⟩ := zpc_J (d := d) (w := w) (c := zz_qp (zz_sp c 12 (x2 &&& 7)) 1 (some j)) hm (by omega) (za_meant x m).1 hfm
          rw [o1] at z1
          rw [← (Prod.mk.inj (Option.some.inj z1)).2, zF_iff hm]
          exact hfm
      obtain ⟨rfl, hf3⟩ := hR
      obtain ⟨c', x1, z5⟩ := z4 hf3
      exact zr_ret ⟨fun z => absurd z hf3, fun _ => ⟨c', _, zL_up (zL_f3 z5 _ _ _) (by decide) (by decide) (by decide), ⟨x1.1, x1.2.1, x1.2.2.1, x1.2.2.2⟩, zXr_f⟩⟩
