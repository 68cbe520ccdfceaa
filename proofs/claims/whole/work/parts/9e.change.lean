/-! what a process comes to -/
def zcE (t : Nat) (s : Int32) (C : zz_S) : zz_S := zz_ap (zz_ap (zz_ap (zz_ap (zz_ap (zz_sp C 2 (zz_sg C 2 + 1)) 7 t s) 14 t (zz_sg C 2 + 1)) 11 t (-1)) 12 t 0) 13 t 0
def zcB (t : Nat) (f p : Int32) (C : zz_S) : zz_S := zcE t 1 (zz_ap (zz_ap (zz_ap C 9 t f) 8 t p) 10 t 0)
def zcK (t : Nat) (C : zz_S) : zz_S := zz_ap (zz_ap (zz_ap (zz_ap (zz_ap (zz_ap (zz_ap (zz_ap C 7 t 0) 14 t 0) 11 t (-1)) 12 t 0) 13 t 0) 8 t 0) 9 t 0) 10 t 0
def zrB (t : Nat) (s : Int32) (R : zz_S) : zz_S := zz_lp (zz_lp (zz_ap R 5 t s) 1 t (zz_lg R 0 0)) 0 0 (zz_lg R 0 0 + 1)
def zrR (t : Nat) (R : zz_S) : zz_S := zz_ap (zz_ap (zrB t 1 R) 11 t 0) 12 t 0
def zrN (t : Nat) (f p : Int32) (R : zz_S) : zz_S := zz_ap (zz_ap (zz_ap (zrR t R) 7 t f) 6 t (p &&& 7)) 8 t 0
def zrH (t : Nat) (fr f : Int32) (R : zz_S) : zz_S := zz_ap (zz_ap (zz_ap (zz_ap R 5 t 4) 7 t fr) 12 t f) 11 t 0
theorem RO_makeReady_p (t : Nat) (C : zz_S) : RO_makeReady_f t C = some ((), zcE t 1 C) := rfl
theorem RO_block_p (t : Nat) (x : Int32) (C : zz_S) : RO_block_f t x C = some ((), zz_ap (zcE t 2 C) 11 t x) := rfl
theorem RO_halt_p (t : Nat) (x : Int32) (C : zz_S) : RO_halt_f t x C = some ((), zz_ap (zcE t 4 C) 13 t x) := rfl
theorem RO_await_p (t : Nat) (x y : Int32) (C : zz_S) : RO_await_f t x y C = some ((), zz_ap (zz_ap (zcE t 3 C) 11 t x) 12 t y) := rfl
theorem RO_begin_p (t : Nat) (f p : Int32) (C : zz_S) : RO_begin_f t f p C = some ((), zcB t f p C) := rfl
theorem TA_clear_p (t : Nat) (C : zz_S) : TA_clear_f t C = some ((), zcK t C) := rfl
theorem MO_become_p {t : Nat} (ht : t < 6) (s : Int32) (R : zz_S) : MO_become_f (nI t) s R = some ((), zrB t s R) := by
  unfold MO_become_f
  rw [zi_in (by decide) ht, nI_clamp (by omega)]
  rfl
theorem MO_ready_p {t : Nat} (ht : t < 6) (R : zz_S) : MO_ready_f (nI t) R = some ((), zrR t R) := by
  unfold MO_ready_f
  rw [MO_become_p ht, zz_bd_s, zi_in (by decide) ht, nI_clamp (by omega)]
  rfl
theorem MO_begin_p {t : Nat} (ht : t < 6) (f p : Int32) (R : zz_S) : MO_begin_f (nI t) f p R = some ((), zrN t f p R) := by
  unfold MO_begin_f
  rw [MO_ready_p ht, zz_bd_s, zi_in (by decide) ht, nI_clamp (by omega)]
  rfl
theorem zcE_C (t : Nat) (s : Int32) (c : zz_S) (m : zM) (d : Nat) (w : Nat → Int32) : zcE t s (zC c m d w) = zC (zcE t s c) m d w := by
  unfold zcE
  rw [zC_sg2, zC_sp2, zC_ap7, zC_ap14, zC_ap11, zC_ap12, zC_ap13]
theorem zcB_C (t : Nat) (f p : Int32) (c : zz_S) (m : zM) (d : Nat) (w : Nat → Int32) : zcB t f p (zC c m d w) = zC (zcB t f p c) m d w := by
  unfold zcB
  rw [zC_ap9, zC_ap8, zC_ap10, zcE_C]
theorem zcK_C (t : Nat) (c : zz_S) (m : zM) (d : Nat) (w : Nat → Int32) : zcK t (zC c m d w) = zC (zcK t c) m d w := by
  unfold zcK
  rw [zC_ap7, zC_ap14, zC_ap11, zC_ap12, zC_ap13, zC_ap8, zC_ap9, zC_ap10]
theorem zrB_R (t : Nat) (s : Int32) (c : zz_S) (m : zM) (d : Nat) (w : Nat → Int32) : zrB t s (zR c m d w) = zR (zrB t s c) m d w := by
  unfold zrB
  rw [zR_lg, zR_ap5, zR_lp, zR_lp]
theorem zrR_R (t : Nat) (c : zz_S) (m : zM) (d : Nat) (w : Nat → Int32) : zrR t (zR c m d w) = zR (zrR t c) m d w := by
  unfold zrR
  rw [zrB_R, zR_ap11, zR_ap12]
theorem zrN_R (t : Nat) (f p : Int32) (c : zz_S) (m : zM) (d : Nat) (w : Nat → Int32) : zrN t f p (zR c m d w) = zR (zrN t f p c) m d w := by
  unfold zrN
  rw [zrR_R, zR_ap7, zR_ap6, zR_ap8]
theorem zrH_R (t : Nat) (fr f : Int32) (c : zz_S) (m : zM) (d : Nat) (w : Nat → Int32) : zrH t fr f (zR c m d w) = zR (zrH t fr f c) m d w := by
  unfold zrH
  rw [zR_ap5, zR_ap7, zR_ap12, zR_ap11]
theorem zk_eq {c r c' r' : zz_S} {t : Nat} (h : zk c r t) (h8 : zz_ag c' 8 t = zz_ag c 8 t) (h9 : zz_ag c' 9 t = zz_ag c 9 t) (h10 : zz_ag c' 10 t = zz_ag c 10 t) (hw : ∀ i, i < 8 → zz_ag c' (20 + t) i = zz_ag c (20 + t) i) (r6 : zz_ag r' 6 t = zz_ag r 6 t) (r7 : zz_ag r' 7 t = zz_ag r 7 t) (r8 : zz_ag r' 8 t = zz_ag r 8 t) (rw' : ∀ i, i < 8 → zz_ag r' 9 (8 * t + i) = zz_ag r 9 (8 * t + i)) : zk c' r' t := by
  unfold zk at h ⊢
  rw [h8, h9, h10, r6, r7, r8]
  obtain ⟨k1, k2, k3, d, hd, k4, k5, k6⟩ := h
  refine ⟨k1, k2, k3, d, hd, k4, k5, fun i hi => ?_⟩
  rw [hw i (by omega), rw' i (by omega)]
  exact k6 i hi
theorem zOc_E (t : Nat) (s : Int32) (c : zz_S) : zOc t c (zcE t s c) := by
  intro u hu hne
  unfold zcE
  simp [zz_n20, zz_ag_ap, zz_ag_sp, hne]
theorem zOc_tr {t : Nat} {a b c : zz_S} (h : zOc t a b) (k : zOc t b c) : zOc t a c := by
  intro u hu hne
  obtain ⟨⟨h1, h2, h3, h4, h5, h6, h7, h8⟩, h9⟩ := h u hu hne
  obtain ⟨⟨k1, k2, k3, k4, k5, k6, k7, k8⟩, k9⟩ := k u hu hne
  exact ⟨⟨k1.trans h1, k2.trans h2, k3.trans h3, k4.trans h4, k5.trans h5, k6.trans h6, k7.trans h7, k8.trans h8⟩, fun i hi => (k9 i hi).trans (h9 i hi)⟩
theorem zOr_tr {t : Nat} {a b c : zz_S} (h : zOr t a b) (k : zOr t b c) : zOr t a c := by
  intro u hu hne
  obtain ⟨⟨h1, h2, h3, h4, h5, h6, h7, h8⟩, h9⟩ := h u hu hne
  obtain ⟨⟨k1, k2, k3, k4, k5, k6, k7, k8⟩, k9⟩ := k u hu hne
  exact ⟨⟨k1.trans h1, k2.trans h2, k3.trans h3, k4.trans h4, k5.trans h5, k6.trans h6, k7.trans h7, k8.trans h8⟩, fun i hi => (k9 i hi).trans (h9 i hi)⟩
theorem zOc_ap {t : Nat} (a : Nat) (v : Int32) (c : zz_S) (h : a < 20) : zOc t c (zz_ap c a t v) := by
  intro u hu hne
  simp [zz_n20, zz_ag_ap, hne, h]
theorem zOr_ap {t : Nat} (a : Nat) (v : Int32) (r : zz_S) (h : a ≠ 9) : zOr t r (zz_ap r a t v) := by
  intro u hu hne
  refine ⟨by simp [zz_ag_ap, zz_lg_ap, hne], fun i hi => ?_⟩
  rw [zz_ag_ap, if_neg (fun z => h z.1.symm)]
theorem zOr_B (t : Nat) (s : Int32) (r : zz_S) : zOr t r (zrB t s r) := by
  intro u hu hne
  unfold zrB
  simp [zz_ag_ap, zz_ag_lp, zz_lg_lp, zz_lg_ap, hne]
theorem zOr_R (t : Nat) (r : zz_S) : zOr t r (zrR t r) := by
  intro u hu hne
  unfold zrR zrB
  simp [zz_ag_ap, zz_ag_lp, zz_lg_lp, zz_lg_ap, hne]
theorem zT_ready {B t : Nat} {c r : zz_S} (h : zTx B t c r) (hB : B < 2147483646) (k : zk c r t) : zTx (B + 1) 6 (zcE t 1 c) (zrR t r) := by
  refine zT_new h hB (zOc_E t 1 c) (zOr_R t r) ?_ ?_ ?_ ?_ ⟨1, by decide, ?_, ?_, ?_⟩
  · simp [zcE, zz_sg_ap, zz_sg_sp]
  · simp [zcE, zz_ag_ap]
  · simp [zrR, zrB, zz_lg_ap, zz_lg_lp]
  · simp [zrR, zrB, zz_lg_ap, zz_lg_lp]
  · simp [zcE, zz_ag_ap]; rfl
  · simp [zrR, zrB, zz_ag_ap, zz_ag_lp]; rfl
  · refine ⟨fun z => by omega, fun _ => zk_eq k ?_ ?_ ?_ ?_ ?_ ?_ ?_ ?_, fun z => by omega, fun _ => ?_, fun z => by omega, fun _ => ?_, fun z => by omega, fun _ => ?_⟩ <;> simp [zcE, zrR, zrB, zz_n20, zz_ag_ap, zz_ag_sp, zz_ag_lp]
theorem zT_block {B t a : Nat} {c r : zz_S} (h : zTx B t c r) (hB : B < 2147483646) (k : zk c r t) (ha : a < 4096) (hr : zz_ag r 10 t = nI a) : zTx (B + 1) 6 (zz_ap (zcE t 2 c) 11 t (nI a)) (zrB t 2 r) := by
  refine zT_new h hB (zOc_tr (zOc_E t 2 c) (zOc_ap 11 _ _ (by decide))) (zOr_B t 2 r) ?_ ?_ ?_ ?_ ⟨2, by decide, ?_, ?_, ?_⟩
  · simp [zcE, zz_sg_ap, zz_sg_sp]
  · simp [zcE, zz_ag_ap]
  · simp [zrB, zz_lg_ap, zz_lg_lp]
  · simp [zrB, zz_lg_ap, zz_lg_lp]
  · simp [zcE, zz_ag_ap]; rfl
  · simp [zrB, zz_ag_ap, zz_ag_lp]; rfl
  · refine ⟨fun z => by omega, fun _ => zk_eq k ?_ ?_ ?_ ?_ ?_ ?_ ?_ ?_, fun z => ⟨?_, a, ha, ?_⟩, fun z => absurd (Or.inl rfl) z, fun z => by omega, fun _ => ?_, fun z => by omega, fun _ => ?_⟩ <;> simp [zcE, zrB, zz_n20, zz_ag_ap, zz_ag_sp, zz_ag_lp, hr]
theorem zT_await {B t a : Nat} {x : Int32} {c r : zz_S} (h : zTx B t c r) (hB : B < 2147483646) (k : zk c r t) (ha : a < 4096) (hr : zz_ag r 10 t = nI a) (hx : zz_ag r 11 t = x) (hw : zWd x) : zTx (B + 1) 6 (zz_ap (zz_ap (zcE t 3 c) 11 t (nI a)) 12 t x) (zrB t 3 r) := by
  refine zT_new h hB (zOc_tr (zOc_tr (zOc_E t 3 c) (zOc_ap 11 _ _ (by decide))) (zOc_ap 12 _ _ (by decide))) (zOr_B t 3 r) ?_ ?_ ?_ ?_ ⟨3, by decide, ?_, ?_, ?_⟩
  · simp [zcE, zz_sg_ap, zz_sg_sp]
  · simp [zcE, zz_ag_ap]
  · simp [zrB, zz_lg_ap, zz_lg_lp]
  · simp [zrB, zz_lg_ap, zz_lg_lp]
  · simp [zcE, zz_ag_ap]; rfl
  · simp [zrB, zz_ag_ap, zz_ag_lp]; rfl
  · refine ⟨fun z => by omega, fun _ => zk_eq k ?_ ?_ ?_ ?_ ?_ ?_ ?_ ?_, fun z => ⟨?_, a, ha, ?_⟩, fun z => absurd (Or.inr rfl) z, fun z => ⟨?_, ?_⟩, fun z => absurd rfl z, fun z => by omega, fun _ => ?_⟩ <;> simp [zcE, zrB, zz_n20, zz_ag_ap, zz_ag_sp, zz_ag_lp, hr, hx, hw]
theorem zT_begin {B t : Nat} {f p : Int32} {c r : zz_S} (h : zTx B t c r) (hB : B < 2147483646) (hf : zWd f) : zTx (B + 1) 6 (zcB t f (p &&& 7) c) (zrN t f p r) := by
  refine zT_new h hB (zOc_tr (zOc_tr (zOc_tr (zOc_ap 9 f c (by decide)) (zOc_ap 8 _ _ (by decide))) (zOc_ap 10 _ _ (by decide))) (zOc_E t 1 _)) (zOr_tr (zOr_tr (zOr_tr (zOr_R t r) (zOr_ap 7 _ _ (by decide))) (zOr_ap 6 _ _ (by decide))) (zOr_ap 8 _ _ (by decide))) ?_ ?_ ?_ ?_ ⟨1, by decide, ?_, ?_, ?_⟩
  · simp [zcB, zcE, zz_sg_ap, zz_sg_sp]
  · simp [zcB, zcE, zz_ag_ap, zz_sg_ap]
  · simp [zrN, zrR, zrB, zz_lg_ap, zz_lg_lp]
  · simp [zrN, zrR, zrB, zz_lg_ap, zz_lg_lp]
  · simp [zcB, zcE, zz_ag_ap]; rfl
  · simp [zrN, zrR, zrB, zz_ag_ap, zz_ag_lp]; rfl
  · refine ⟨fun z => by omega, fun _ => ⟨?_, ?_, ?_, 0, by decide, ?_, ?_, fun i hi => by omega⟩, fun z => by omega, fun _ => ?_, fun z => by omega, fun _ => ?_, fun z => by omega, fun _ => ?_⟩ <;> simp [zcB, zcE, zrN, zrR, zrB, zz_n20, zz_ag_ap, zz_ag_sp, zz_ag_lp, hf, nI_0]
theorem zT_clear {B t : Nat} {c r r' : zz_S} (h : zTx B t c r) (ho : zOr t r r') (hl : zz_lg r' 0 0 = zz_lg r 0 0) (hr : zz_ag r' 5 t = 0) : zTx B 6 (zcK t c) r' := by
  have hs : zz_sg (zcK t c) 2 = zz_sg c 2 := rfl
  refine zT_dead h ?_ ho ?_ (by rw [hs]; exact Int.le_refl _) hl ⟨0, by decide, ?_, ?_, ?_⟩ ?_
  · intro u hu hne
    unfold zcK
    simp [zz_n20, zz_ag_ap, hne]
  · unfold zTg
    rw [hs, hl]
    exact h.1
  · simp [zcK, zz_ag_ap]; rfl
  · exact hr
  · refine ⟨fun _ => ⟨?_, ?_, ?_⟩, fun z => absurd rfl z, fun z => by omega, fun _ => ?_, fun z => by omega, fun _ => ?_, fun z => by omega, fun _ => ?_⟩ <;> simp [zcK, zz_ag_ap]
  · simp [zlv, zcK, zz_ag_ap]
theorem zT_halt {B t : Nat} {fr f : Int32} {c r r' : zz_S} (h : zTx B t c r) (hB : B < 2147483646) (ho : zOr t r r') (hl : zz_lg r' 0 0 = zz_lg r 0 0) (k8 : zz_ag c 8 t = zz_ag r' 6 t) (k9 : zz_ag c 9 t = fr) (kf : zWd fr) (kd : ∃ d, d ≤ 8 ∧ zz_ag c 10 t = nI d ∧ zz_ag r' 8 t = nI d ∧ ∀ i, i < d → zz_ag c (20 + t) i = zz_ag r' 9 (8 * t + i) ∧ zWd (zz_ag c (20 + t) i)) : zTx (B + 1) 6 (zz_ap (zcE t 4 c) 13 t f) (zrH t fr f r') := by
  obtain ⟨g1, g2, g3, g4⟩ := h.1
  have e1 := zz_inc g1 g2 (by omega)
  have hs : zz_sg (zz_ap (zcE t 4 c) 13 t f) 2 = zz_sg c 2 + 1 := rfl
  have hl' : zz_lg (zrH t fr f r') 0 0 = zz_lg r 0 0 := hl
  refine zT_dead h (zOc_tr (zOc_E t 4 c) (zOc_ap 13 _ _ (by decide))) (zOr_tr ho (zOr_tr (zOr_tr (zOr_tr (zOr_ap 5 _ _ (by decide)) (zOr_ap 7 _ _ (by decide))) (zOr_ap 12 _ _ (by decide))) (zOr_ap 11 _ _ (by decide)))) ?_ (by rw [hs, e1]; omega) hl' ⟨4, by decide, ?_, ?_, ?_⟩ ?_
  · unfold zTg
    rw [hs, hl', e1]
    omega
  · simp [zcE, zz_ag_ap]; rfl
  · simp [zrH, zz_ag_ap]; rfl
  · obtain ⟨d, hd, d1, d2, d3⟩ := kd
    refine ⟨fun z => by omega, fun _ => ⟨?_, ?_, ?_, d, hd, ?_, ?_, fun i hi => ?_⟩, fun z => by omega, fun _ => ?_, fun z => by omega, fun _ => ?_, fun _ => ?_, fun z => absurd rfl z⟩
    · simp [zcE, zrH, zz_ag_ap, zz_ag_sp, k8]
    · simp [zcE, zrH, zz_ag_ap, zz_ag_sp, k9]
    · simp [zcE, zrH, zz_ag_ap, zz_ag_sp, k9, kf]
    · simp [zcE, zrH, zz_ag_ap, zz_ag_sp, d1]
    · simp [zcE, zrH, zz_ag_ap, zz_ag_sp, d2]
    · have := d3 i hi
      simp [zcE, zrH, zz_n20, zz_ag_ap, zz_ag_sp]
      exact this
    · simp [zcE, zrH, zz_ag_ap, zz_ag_sp]
    · simp [zcE, zrH, zz_ag_ap, zz_ag_sp]
    · simp [zcE, zrH, zz_ag_ap, zz_ag_sp]
  · simp [zlv, zcE, zz_ag_ap]
