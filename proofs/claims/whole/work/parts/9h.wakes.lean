/-! those that are woken -/
theorem zt_keep {B t : Nat} {fr x : Int32} {c r c1 r1 c2 r2 : zz_S} (hG : zG B t fr c r) (hc : zXc c c1) (hr : zXr t r r1) (hx : zz_sg c1 3 = x) (hx7 : zz_ag r1 7 t = x) (hw : zWd x) (hS : zSv t c1 r1 c2 r2) : zTx B t c2 r2 ∧ zk c2 r2 t ∧ zz_ag c2 7 t = 1 ∧ zz_ag c2 11 t = -1 ∧ zz_ag c2 12 t = 0 ∧ zz_ag c2 13 t = 0 ∧ (zz_ag r1 5 t = 1 → zTx B 6 c2 r2) := by
  obtain ⟨⟨k8, k9, kw, dd, hdd, k10, k11, k12⟩, g5, g11, g12, g13⟩ := zG_k hG
  obtain ⟨⟨ht, hq, h9, h3, h7⟩, hT, hst, -, -, -, -, -, -, -, hB⟩ := hG
  obtain ⟨s1, s2, s3, s4, s5, s6, s7, s8, s9, s10⟩ := hS
  have hT1 : zTx B t c2 r2 := by
    refine zTx_eq (zTx_off (t := t) (t' := t) hT) (zOc_tr (zXc_O hc t) s1) (zOr_tr (zXr_O hr) s2) ?_ ?_ ?_
    · have := hT.1
      unfold zTg at this ⊢
      rw [s3, hc.2.1, s6, hr.2.2.1]
      exact this
    · rw [s3, hc.2.1]; exact Int.le_refl _
    · rw [s6, hr.2.2.1]; exact Int.le_refl _
  have hk : zk c2 r2 t := by
    refine ⟨?_, ?_, ?_, s10⟩
    · rw [s7 8 (Or.inr (Or.inl rfl)), hc.2.2.2, s9 6 t (by decide) (by decide), hr.2.1 6 t (by decide) (Or.inr (by decide))]; exact k8
    · rw [s8, hx, s9 7 t (by decide) (by decide), hx7]
    · rw [s8, hx]; exact hw
  have e7 : zz_ag c2 7 t = 1 := by rw [s7 7 (Or.inl rfl), hc.2.2.2]; exact hst
  have e11 : zz_ag c2 11 t = -1 := by rw [s7 11 (Or.inr (Or.inr (by decide))), hc.2.2.2]; exact g11
  have e12 : zz_ag c2 12 t = 0 := by rw [s7 12 (Or.inr (Or.inr (by decide))), hc.2.2.2]; exact g12
  have e13 : zz_ag c2 13 t = 0 := by rw [s7 13 (Or.inr (Or.inr (by decide))), hc.2.2.2]; exact g13
  refine ⟨hT1, hk, e7, e11, e12, e13, fun hr5 => ?_⟩
  have e14 : zsC c2 t = zsC c t := by unfold zsC; rw [s7 14 (Or.inr (Or.inr (by decide))), hc.2.2.2]
  have el : ∀ u, zsR r2 u = zsR r u := fun u => by unfold zsR; rw [s6, hr.2.2.1]
  have ho := zTx_ord hT ht (Or.inl hst)
  refine zTx_in hT1 ⟨1, by decide, e7, ?_, fun z => by omega, fun _ => hk, fun z => by omega, fun _ => e11, fun z => by omega, fun _ => e12, fun z => by omega, fun _ => e13⟩ (fun _ => ⟨?_, ?_, fun u hu hne lu => ?_⟩)
  · rw [s9 5 t (by decide) (by decide), hr5]; rfl
  · rw [e14, s3, hc.2.1]; exact ho.1
  · rw [el, s6, hr.2.2.1]; exact ho.2.1
  · have q := zOc_tr (zXc_O hc t) s1 u hu hne
    have eu : zsC c2 u = zsC c u := by unfold zsC; rw [q.1.2.2.2.2.2.2.2]
    unfold zlv at lu
    rw [q.1.1] at lu
    rw [e14, el, el, eu]
    exact ho.2.2 u hu hne lu
/-- which ones may be woken, on both sides -/
def zRl (s : Nat) (a : Nat) (x : Int32) (W : Nat) (C R : zz_S) : Prop := (∀ t, t < 6 → ((zz_ag R 5 t = nI s ∧ zz_ag R 10 t = x &&& 4095 ∧ ∀ l, l < W → zz_ag R 17 l ≠ nI t) ↔ (zz_ag C 7 t = nI s ∧ zz_ag C 11 t = nI a))) ∧ (∀ t, t < 6 → (zz_ag C 7 t = nI s ∧ zz_ag C 11 t = nI a) → zz_ag C 8 t = zz_ag R 6 t) ∧ ∀ t u, t < 6 → u < 6 → (zz_ag C 7 t = nI s ∧ zz_ag C 11 t = nI a) → (zz_ag C 7 u = nI s ∧ zz_ag C 11 u = nI a) → (zz_ag C 14 u ≤ zz_ag C 14 t ↔ zz_lg R 1 u ≤ zz_lg R 1 t)
theorem zRl_of {B t s a : Nat} {x : Int32} {c r C R : zz_S} (hT : zTx B t c r) (hs : s = 2 ∨ s = 3) (hx : x &&& 4095 = nI a) (hC : zOc t c C) (hR : ∀ u, u < 6 → u ≠ t → zz_ag R 5 u = zz_ag r 5 u ∧ zz_ag R 6 u = zz_ag r 6 u ∧ zz_ag R 10 u = zz_ag r 10 u ∧ zz_lg R 1 u = zz_lg r 1 u) (h1 : t < 6 → ¬ zz_ag C 7 t = nI s) (h2 : t < 6 → ¬ zz_ag R 5 t = nI s) : zRl s a x 0 C R := by
  have key : ∀ u, u < 6 → (zz_ag C 7 u = nI s → u ≠ t) := fun u hu e z => by subst z; exact h1 hu e
  refine ⟨fun u hu => ?_, fun u hu p => ?_, fun u u' hu hu' p p' => ?_⟩
  · by_cases e : u = t
    · subst e
      exact ⟨fun z => absurd z.1 (h2 hu), fun z => absurd z.1 (h1 hu)⟩
    · obtain ⟨⟨c7, c8, -, -, c11, -, -, c14⟩, -⟩ := hC u hu e
      obtain ⟨r5, r6, r10, rl⟩ := hR u hu e
      obtain ⟨⟨z, hz, e7, e5, g⟩, -⟩ := hT.2 u hu e
      rw [c7, c11, r5, r10, e7, e5, hx]
      by_cases y : z = s
      · subst y
        have := (g.2.2.1 hs).1
        rw [this]
        exact ⟨fun q => ⟨q.1, q.2.1⟩, fun q => ⟨q.1, q.2, fun l hl => absurd hl (Nat.not_lt_zero _)⟩⟩
      · have hn : ¬ nI z = nI s := fun q => y ((nI_eq (by omega) (by omega)).mp q)
        exact ⟨fun q => absurd q.1 hn, fun q => absurd q.1 hn⟩
  · have e := key u hu p.1
    obtain ⟨⟨c7, c8, -, -, c11, -, -, c14⟩, -⟩ := hC u hu e
    obtain ⟨r5, r6, r10, rl⟩ := hR u hu e
    obtain ⟨⟨z, hz, e7, e5, g⟩, -⟩ := hT.2 u hu e
    rw [c8, r6]
    have hzs : z = s := by
      rw [c7, e7] at p
      exact (nI_eq (by omega) (by omega)).mp p.1
    exact (g.2.1 (by omega)).1
  · have e := key u hu p.1
    have e' := key u' hu' p'.1
    obtain ⟨⟨c7, c8, -, -, c11, -, -, c14⟩, -⟩ := hC u hu e
    obtain ⟨⟨c7', -, -, -, -, -, -, c14'⟩, -⟩ := hC u' hu' e'
    obtain ⟨r5, r6, r10, rl⟩ := hR u hu e
    obtain ⟨-, -, -, rl'⟩ := hR u' hu' e'
    have lv : ∀ y : Int32, y = nI s → y = 1 ∨ y = 2 ∨ y = 3 := fun y hy => by
      rcases hs with q | q
      · exact Or.inr (Or.inl (by rw [hy, q]; rfl))
      · exact Or.inr (Or.inr (by rw [hy, q]; rfl))
    have l1 : zlv c u := lv _ (by rw [← c7]; exact p.1)
    have l2 : zlv c u' := lv _ (by rw [← c7']; exact p'.1)
    have := (((hT.2 u hu e).2 l1).2.2 u' hu' e' l2)
    rw [c14, c14', rl, rl', Int32.le_iff_toInt_le, Int64.le_iff_toInt_le]
    exact this
theorem zw_first {s a W : Nat} {x : Int32} {C R : zz_S} (h : zRl s a x W C R) (hW : zz_sg R 9 = nI W) (hW6 : W ≤ 6) : ∃ q b, RO_firstAt_f (nI s) (nI a) C = some (q, C) ∧ MO_firstOf_f (nI s) x R = some (b, R) ∧ zQ (fun t => zz_ag C 7 t = nI s ∧ zz_ag C 11 t = nI a) q b := by
  have := zfirstOf (P := fun t => zz_ag C 7 t = nI s ∧ zz_ag C 11 t = nI a) (x1 := nI s) (x2 := nI a) (y1 := nI s) (y2 := x) (C := C) (R := R) hW hW6 (fun _ _ => Iff.rfl) h.1 h.2.1 h.2.2 6 3 0 none (-1) (by decide) zQ_none
  exact this
/-- one on the reference's list -/
def zrW (W : Nat) (t : Nat) (R : zz_S) : zz_S := zz_sp (zz_ap R 17 W (nI t)) 9 (nI (W + 1))
theorem MO_wake_s {s W t : Nat} {x : Int32} {R : zz_S} (hf : zz_sg R 2 ≤ 0) (hW : zz_sg R 9 = nI W) (hW6 : W < 6) (ht : t < 6) (e : MO_firstOf_f (nI s) x R = some (nI t, R)) : MO_wake_f (nI s) x R = some (1, zrW W t R) := by
  unfold MO_wake_f MO_wake_17
  rw [if_pos hf, e, zz_bd_s, if_pos (nI_pos' (by omega)), zz_nm_e, hW, zi_in (by decide) hW6, zz_gd_t, nI_clamp (by omega), zz_nm_e, show zz_sg (zz_ap R 17 W (nI t)) 9 = zz_sg R 9 from rfl, hW, nI_1]
  rfl
theorem MO_wake_n {s : Nat} {x : Int32} {R : zz_S} (hf : zz_sg R 2 ≤ 0) (e : MO_firstOf_f (nI s) x R = some (-1, R)) : MO_wake_f (nI s) x R = some (0, R) := by
  unfold MO_wake_f MO_wake_17
  rw [if_pos hf, e, zz_bd_s, if_neg (by decide)]
theorem MO_wake_j {s : Nat} {x : Int32} {R : zz_S} (hf : ¬ zz_sg R 2 ≤ 0) : MO_wake_f (nI s) x R = some (0, R) := by
  unfold MO_wake_f MO_wake_17
  rw [if_neg hf, if_neg (by decide)]
def zfC (ts : List Nat) (C : zz_S) : zz_S := ts.foldl (fun c t => zcE t 1 c) C
def zfR (ts : List Nat) (R : zz_S) : zz_S := ts.foldl (fun r t => zrR t r) R
theorem zfC_C (m : zM) (d : Nat) (w : Nat → Int32) : ∀ (ts : List Nat) (c : zz_S), zfC ts (zC c m d w) = zC (zfC ts c) m d w
  | [], c => rfl
  | t :: ts, c => by
    show zfC ts (zcE t 1 (zC c m d w)) = zC (zfC ts (zcE t 1 c)) m d w
    rw [zcE_C, zfC_C m d w ts]
theorem zfR_R (m : zM) (d : Nat) (w : Nat → Int32) : ∀ (ts : List Nat) (c : zz_S), zfR ts (zR c m d w) = zR (zfR ts c) m d w
  | [], c => rfl
  | t :: ts, c => by
    show zfR ts (zrR t (zR c m d w)) = zR (zfR ts (zrR t c)) m d w
    rw [zrR_R, zfR_R m d w ts]
theorem zT_wakes : ∀ (ts : List Nat) (B : Nat) (c r : zz_S), zTx B 6 c r → (∀ t, t ∈ ts → t < 6 ∧ ¬ zz_ag c 7 t = 0) → B + ts.length < 2147483646 → zTx (B + ts.length) 6 (zfC ts c) (zfR ts r)
  | [], B, c, r, h, _, _ => h
  | t :: ts, B, c, r, h, hm, hB => by
    have hl : (t :: ts).length = ts.length + 1 := rfl
    rw [hl] at hB ⊢
    obtain ⟨ht, h7⟩ := hm t (List.mem_cons_self ..)
    have hk : zk c r t := by
      obtain ⟨⟨s, hs, e1, e2, g⟩, -⟩ := h.2 t ht (by omega)
      refine g.2.1 (fun z => h7 ?_)
      rw [e1, z]; rfl
    have h1 : zTx (B + 1) 6 (zcE t 1 c) (zrR t r) := zT_ready (zTx_off (t := t) (t' := t) h) (by omega) hk
    have := zT_wakes ts (B + 1) _ _ h1 (fun u hu => ⟨(hm u (List.mem_cons_of_mem _ hu)).1, ?_⟩) (by omega)
    · rw [show B + (ts.length + 1) = B + 1 + ts.length from by omega]
      exact this
    · have q := (hm u (List.mem_cons_of_mem _ hu)).2
      simp only [zcE, zz_ag_ap, zz_ag_sp]
      by_cases e : u = t
      · subst e
        simp
      · simp [e, q]
/-- the reference's list -/
def zwk (ts : List Nat) (r : zz_S) : Prop := zz_sg r 9 = nI ts.length ∧ ts.length ≤ 6 ∧ ∀ (i : Nat) (h : i < ts.length), zz_ag r 17 i = nI (ts[i]'h) ∧ ts[i]'h < 6
theorem MO_wakeAll_l {ts : List Nat} : ∀ (k n i : Nat) (R : zz_S), zwk ts R → i + k = ts.length → MO_wakeAll_2 (n + k + 1) (nI i) R = some ((), zz_sp (zfR (ts.drop i) R) 9 0) := by
  intro k
  induction k with
  | zero =>
    intro n i R h hi
    show MO_wakeAll_2b (MO_wakeAll_2 (n + 0)) (nI i) R = _
    unfold MO_wakeAll_2b
    have h6 := h.2.1
    rw [h.1, if_pos (nI_le (by omega) (by omega)), zz_nm_e, List.drop_eq_nil_of_le (by omega)]
    rfl
  | succ k ih =>
    intro n i R h hi
    obtain ⟨h1, h6, h2⟩ := h
    obtain ⟨e, ht⟩ := h2 i (by omega)
    show MO_wakeAll_2b (MO_wakeAll_2 (n + k + 1)) (nI i) R = _
    unfold MO_wakeAll_2b
    rw [h1, if_neg (nI_ge (by omega) (by omega)), zi_in (by decide) (by omega), zz_gd_t, nI_clamp (by omega), e, MO_ready_p ht, zz_bd_s, nI_1, ih n (i + 1) (zrR (ts[i]'(by omega)) R) ⟨h1, h6, h2⟩ (by omega), List.drop_eq_getElem_cons (show i < ts.length by omega)]
    rfl
theorem MO_wakeAll_p {ts : List Nat} {R : zz_S} (h : zwk ts R) : MO_wakeAll_f R = some ((), zz_sp (zfR ts R) 9 0) := by
  have h6 := h.2.1
  have := MO_wakeAll_l ts.length (9 - ts.length) 0 R h (by omega)
  rw [show 9 - ts.length + ts.length + 1 = 10 from by omega] at this
  exact this
/-- what the reference does behind the saving -/
theorem MO_after {n t : Nat} {ts : List Nat} {R : zz_S} (ht : t < 6) (h3 : zz_sg R 3 = nI t) (hw : zwk ts R) (h5 : ¬ zz_ag R 5 t = 3) (h10 : zz_sg R 10 = 0) (h11 : zz_sg R 11 = -1) : MO_instruction_306 (n + 1) (nI 8) R = some ((), zz_sp (zfR ts R) 9 0) := by
  show MO_instruction_306b (MO_instruction_306 n) (nI 8) R = _
  unfold MO_instruction_306b MO_instruction_363 MO_instruction_378
  have h11' : zz_sg (zz_sp (zfR ts R) 9 0) 11 = -1 := by
    rw [zz_sg_sp, if_neg (by decide)]
    have : ∀ (ts : List Nat) (R : zz_S), zz_sg (zfR ts R) 11 = zz_sg R 11 := by
      intro ts
      induction ts with
      | nil => intro R; rfl
      | cons t ts ih => intro R; exact ih (zrR t R)
    rw [this, h11]
  rw [if_pos (by decide), zz_nm_e, h3, zi_in (by decide) ht, zz_gd_t, nI_clamp (by omega), if_neg h5, if_pos h10, MO_wakeAll_p hw, zz_bd_s, h11', if_pos (by decide)]
