/-! the calls: processes -/
theorem zR20t {r : zz_S} {m : zM} {e : Nat} {v : Nat → Int32} (h : zm_ok m) (hf : zmf m = 0) : (zz_sg (zR r m e v) 2 = 0) = True := by rw [zR_sg2, zm_f0 h]; exact eq_true hf
theorem zR20f {r : zz_S} {m : zM} {e : Nat} {v : Nat → Int32} (h : zm_ok m) (hf : ¬ zmf m = 0) : (zz_sg (zR r m e v) 2 = 0) = False := by rw [zR_sg2, zm_f0 h]; exact eq_false hf
theorem zR21t {r : zz_S} {m : zM} {e : Nat} {v : Nat → Int32} (h : zm_ok m) (hf : zmf m = 0) : (zz_sg (zR r m e v) 2 ≤ 0) = True := by rw [zR_sg2, zm_f1 h]; exact eq_true hf
theorem zR21f {r : zz_S} {m : zM} {e : Nat} {v : Nat → Int32} (h : zm_ok m) (hf : ¬ zmf m = 0) : (zz_sg (zR r m e v) 2 ≤ 0) = False := by rw [zR_sg2, zm_f1 h]; exact eq_false hf
theorem zB_core {c r : zz_S} {m : zM} {d e : Nat} {w v : Nat → Int32} {b : Int32} (hm : zm_ok m) (hk : zmk m + 5 ≤ 16) (hb : zWd b) : ∃ c' m' y, zpc b (zC c m d w) = some ((), zC c' m' d w) ∧ MO_begun_f b (zR r m e v) = some (y, zR r m' e v) ∧ zm_ok m' ∧ zmk m' ≤ zmk m + 5 ∧ (zmf m' = 0 → zWd y ∧ c' = zz_sp c 11 y) ∧ zXc c c' := by
  unfold zpc MO_begun_f
  rw [FR_meant_e hm, zz_bd_s]
  obtain ⟨u, e1, e2⟩ := MO_meant_r (c := r) (d := e) (w := v) hm hb
  rw [e1, zz_bd_s]
  have ok1 := za_meant_ok (x := b) hm
  have k1 := za_meant_k b m
  have g1 := za_meant_g (x := b) (m := m)
  have w1 := za_meant_w hm hb
  generalize za_meant b m = p at e2 ok1 k1 g1 w1 ⊢
  obtain ⟨p1, m1⟩ := p
  dsimp only at e2 ok1 k1 g1 w1 ⊢
  by_cases hf1 : zmf m1 = 0
  · obtain ⟨w1, hw1, rfl⟩ := w1
    have := e2 hf1
    subst this
    obtain ⟨g2, g3⟩ := g1 hf1
    rw [zi_3] at g3
    have g3' : ¬ w1 % 4 = 2 := fun z => g3 (by rw [z]; rfl)
    simp only [zR20t ok1 hf1, if_true]
    unfold FR_isProcedure_f
    by_cases o : w1 % 2 = 0
    · have o1 : (nI w1 &&& 1) = 0 := by rw [zi_1, o]; rfl
      have o2 : zz_rem (nI w1) (4 : Int32) = 0 := by rw [zi_r4 hw1]; omega
      have ok8 := za_fail_ok (e := 8) (by decide) ok1
      have f8 : ¬ zmf (za_fail 8 m1) = 0 := by rw [za_fail_0 hf1]; exact (by decide : ¬ (8 : Nat) = 0)
      rw [if_pos o1, zz_bd_s, if_pos rfl, if_pos o2, ME_fail_e8 ok1, MO_wrong_r8 ok1, zz_bd_s, zz_bd_s]
      unfold MO_begun_25
      simp only [zR21f ok8 f8, if_false]
      exact ⟨c, za_fail 8 m1, 0, rfl, rfl, ok8, by rw [za_fail_k]; omega, fun z => absurd z f8, rfl, rfl, rfl, fun _ _ => rfl⟩
    · have o1 : ¬ (nI w1 &&& 1) = 0 := by rw [zi_1, zi_z (by omega)]; omega
      have o2 : ¬ zz_rem (nI w1) (4 : Int32) = 0 := by rw [zi_r4 hw1]; omega
      rw [if_neg o1, zz_bd_s, if_neg (by decide), if_neg o2, FR_open_e ok1 (by omega), zz_bd_s, zC_sp11, zz_nm_e]
      unfold MO_begun_25
      simp only [zR21t ok1 hf1, if_true]
      obtain ⟨v2, f1, f2⟩ := MO_called_r (c := r) (d := e) (w := v) ok1 (by omega) ⟨w1, hw1, rfl⟩ 0
      have hk2 := za_called_k (nI w1) 0 m1
      have ok2 := za_called_ok (x := nI w1) (f := 0) ok1
      have ww := za_called_w (f := 0) ok1 ⟨w1, hw1, rfl⟩
      rw [za_called_odd o] at f1 f2 hk2 ok2 ww
      rw [f1, zz_bd_s]
      generalize za_open ((nI w1 >>> ((5 : Int32) &&& 31)) &&& 15) ((nI w1 >>> ((1 : Int32) &&& 31)) &&& 15) 0 m1 = z at f2 hk2 ok2 ww ⊢
      obtain ⟨z1, m2⟩ := z
      dsimp only at f2 hk2 ok2 ww ⊢
      refine ⟨_, m2, v2, rfl, rfl, ok2, by omega, fun q => ?_, rfl, rfl, rfl, fun _ _ => rfl⟩
      rw [f2 q]
      exact ⟨ww, rfl⟩
  · obtain ⟨c', x1, x2⟩ := zpc_J (c := c) (d := d) (w := w) ok1 (by omega) p1 hf1
    rw [x1]
    simp only [zR20f ok1 hf1, if_false]
    unfold MO_begun_25
    simp only [zR21f ok1 hf1, if_false]
    exact ⟨c', m1, 0, rfl, rfl, ok1, by omega, fun z => absurd z hf1, x2⟩
theorem MO_begin_R {j : Nat} (hj : j < 6) (f p : Int32) (c : zz_S) (m : zM) (d : Nat) (w : Nat → Int32) : MO_begin_f (nI j) f p (zR c m d w) = some ((), zR (zrN j f p c) m d w) := by rw [MO_begin_p hj, zrN_R]
theorem zc_start {B : Nat} {C R : zz_S} (h : zI B C R) (hB : B < 2147483000) (x p : Int32) : zr (FP_start_f x p C) (MO_start_f x p R) (zRv ze1 (B + 1)) := by
  obtain ⟨c, r, m, d, w, e, v, rfl, rfl, hm, hT⟩ := h
  have e0 : zz_sp (zC c m d w) 0 (0 : Int32) = zC c (zmsk m 0) d w := zC_sp0 c m d w 0
  have e1 : zz_sp (zC c (zmsk m 0) d w) 1 (0 : Int32) = zC c (zb_m m) d w := zC_sp1 c _ d w 0
  have e2 : zz_sp (zR r m e v) 2 (0 : Int32) = zR r (zmsf m 0) e v := zR_sp2 r m e v 0
  have e3 : zz_sp (zR r (zmsf m 0) e v) 1 (0 : Int32) = zR r (zb_m m) e v := zR_sp1 r _ e v 0
  have ok0 : zm_ok (zb_m m) := zb_ok hm
  have kk0 : zmk (zb_m m) = 0 := rfl
  have f0 : zmf (zb_m m) = 0 := rfl
  unfold FP_start_f PR_launch_f ME_begin_f PR_prepareChild_f MO_start_f
  rw [zz_nm_e, e0, zz_nm_e, e1, zz_bd_s, zz_nm_e, e2, zz_nm_e, e3, zz_nm_e, zC_sp12]
  obtain ⟨q, b, g1, g2, hqb⟩ := zfree0 (C := zC (zz_sp c 12 (p &&& 7)) (zb_m m) d w) (R := zR r (zb_m m) e v) (fun t ht => by rw [zC_ag7, zR_ag5]; show zz_ag c 7 t = 0 ↔ _; rw [zTx_st hT ht])
  rw [g1, g2, zz_bd_s, zz_bd_s, zz_nm_e, zC_qp]
  rw [show zz_qg (zC (zz_qp (zz_sp c 12 (p &&& 7)) 1 q) (zb_m m) d w) 1 = q from rfl]
  unfold MO_start_25 MO_low_f
  rcases hqb with ⟨rfl, rfl⟩ | ⟨j, hj, rfl, rfl, hj7⟩
  · rw [zz_oc_n, if_neg (show ¬ (0 : Int32) ≤ -1 by decide), ME_fail_e8 ok0, MO_wrong_r8 ok0, zz_bd_s, zz_bd_s, zz_bd_s]
    have ok8 := za_fail_ok (e := 8) (by decide) ok0
    have f8 : ¬ zmf (za_fail 8 (zb_m m)) = 0 := by rw [za_fail_0 f0]; exact (by decide : ¬ (8 : Nat) = 0)
    unfold ME_hasFailed_f PR_launch_30 MO_start_44 MO_start_59
    simp only [zR21f ok8 f8, if_false, zz_nm_e, zR_sp0]
    rw [if_neg (show ¬ zz_sg (zC (zz_qp (zz_sp c 12 (p &&& 7)) 1 none) (za_fail 8 (zb_m m)) d w) 1 = 0 from fun z => f8 ((zF_iff ok8).mp z)), zz_bd_s, if_neg z10, ME_undo_e ok8 (by rw [za_fail_k]; omega), zz_bd_s, zz_bd_s, if_pos rfl]
    rw [MO_undo_r ok8 (by rw [za_fail_k]; omega), zz_bd_s]
    exact zr_ret ⟨⟨_, _, _, d, w, e, v, rfl, rfl, za_undo_ok ok8, zTx_up hT (by omega)⟩, Or.inr ⟨1, rfl, rfl, by decide⟩⟩
  · obtain ⟨c', m', y, x1, x2, ok', kk', hz, hc'⟩ := zB_core (c := zz_qp (zz_sp c 12 (p &&& 7)) 1 (some j)) (r := r) (d := d) (e := e) (w := w) (v := v) (b := x &&& 65535) ok0 (by omega) (zi_w x)
    unfold zpc at x1
    rw [zz_oc_s, zz_lt6 hj, zz_gd_t, x1, zz_bd_s, if_pos (nI_pos' (show j < 2 ^ 31 by omega))]
    simp only [zR21t ok0 f0, if_true]
    rw [zz_bd_s, x2, zz_bd_s]
    unfold ME_hasFailed_f PR_launch_30 MO_start_44 MO_start_59
    by_cases f' : zmf m' = 0
    · obtain ⟨hwy, rfl⟩ := hz f'
      simp only [zR21t ok' f', if_true, zz_nm_e, zR_sp0]
      rw [if_pos (show zz_sg (zC (zz_sp (zz_qp (zz_sp c 12 (p &&& 7)) 1 (some j)) 11 y) m' d w) 1 = 0 from (zF_iff ok').mpr f'), zz_bd_s, if_pos rfl]
      rw [show zz_qg (zC (zz_sp (zz_qp (zz_sp c 12 (p &&& 7)) 1 (some j)) 11 y) m' d w) 1 = some j from rfl, zz_oc_s, zz_lt6 hj, zz_gd_t, zz_oc_s, zz_lt6 hj, zz_gd_t, RO_begin_p, zcB_C, zz_bd_s]
      rw [MO_begin_R hj, zz_bd_s]
      rw [show zz_sg (zC (zz_sp (zz_qp (zz_sp c 12 (p &&& 7)) 1 (some j)) 11 y) m' d w) 11 = y from rfl, show zz_sg (zC (zz_sp (zz_qp (zz_sp c 12 (p &&& 7)) 1 (some j)) 11 y) m' d w) 12 = p &&& 7 from rfl]
      rw [show zz_qg (zC (zcB j y (p &&& 7) (zz_sp (zz_qp (zz_sp c 12 (p &&& 7)) 1 (some j)) 11 y)) m' d w) 1 = some j from rfl, zz_oc_s, zz_lt6 hj, zz_gd_t, zz_bd_s]
      rw [show Int32.ofNat j = nI j from rfl, if_neg (zi_m1 (by omega))]
      exact zr_ret ⟨⟨_, _, m', d, w, e, v, rfl, rfl, ok', zT_begin (c := zz_sp (zz_qp (zz_sp c 12 (p &&& 7)) 1 (some j)) 11 y) (r := zz_sp r 0 0) (zTx_off (t := j) (t' := j) hT) (by omega) hwy⟩, Or.inl ⟨rfl, rfl⟩⟩
    · simp only [zR21f ok' f', if_false, zz_nm_e, zR_sp0]
      rw [if_neg (show ¬ zz_sg (zC c' m' d w) 1 = 0 from fun z => f' ((zF_iff ok').mp z)), zz_bd_s, if_neg z10, ME_undo_e ok' (by omega), zz_bd_s, zz_bd_s, if_pos rfl]
      rw [MO_undo_r ok' (by omega), zz_bd_s]
      refine zr_ret ⟨⟨c', _, _, d, w, e, v, rfl, rfl, za_undo_ok ok', ?_⟩, Or.inr ⟨1, rfl, rfl, by decide⟩⟩
      refine zTx_up (B := B) (zTx_eq (r := r) hT (zXc_O (c := c) ⟨hc'.1, hc'.2.1, hc'.2.2.1, hc'.2.2.2⟩ 6) (fun _ _ _ => ⟨⟨rfl, rfl, rfl, rfl, rfl, rfl, rfl, rfl⟩, fun _ _ => rfl⟩) ?_ ?_ (Int.le_refl _)) (by omega)
      · have := hT.1
        unfold zTg at this ⊢
        rw [hc'.2.1]
        exact this
      · rw [hc'.2.1]; exact Int.le_refl _
theorem zrunner {B : Nat} {c r : zz_S} {m : zM} {d e : Nat} {w v : Nat → Int32} (hT : zTx B 6 c r) : ∃ q b, RO_firstAt_f 1 (-1) (zC c m d w) = some (q, zC c m d w) ∧ MO_first_f (zR r m e v) = some (b, zR r m e v) ∧ zQ (fun t => zz_ag c 7 t = 1) q b := by
  have hst : ∀ t, t < 6 → zz_ag c 7 t = 1 → zg 1 c r t := fun t ht h7 => by
    obtain ⟨⟨s, hs, e1, e2, g⟩, -⟩ := hT.2 t ht (by omega)
    have : s = 1 := by
      rw [h7] at e1
      exact ((nI_eq (by omega) (by decide)).mp (e1.symm.trans (show (1 : Int32) = nI 1 from by decide)))
    rw [this] at g
    exact g
  refine zfirst (P := fun t => zz_ag c 7 t = 1) (x1 := 1) (x2 := -1) (C := zC c m d w) (R := zR r m e v) (fun t ht => ?_) (fun t ht => ?_) (fun t ht h => ?_) (fun t u ht hu h h' => ?_) 6 3 0 none (-1) (by decide) zQ_none
  · rw [zC_ag7, zC_ag11]
    exact ⟨fun z => z.1, fun z => ⟨z, (hst t ht z).2.2.2.1 (by omega)⟩⟩
  · rw [zR_ag5, zTx_st hT ht]
  · rw [zC_ag8, zR_ag6]
    exact ((hst t ht h).2.1 (by decide)).1
  · rw [zC_ag14, zC_ag14, zR_lg, zR_lg, Int32.le_iff_toInt_le, Int64.le_iff_toInt_le]
    exact ((hT.2 t ht (by omega)).2 (Or.inl h)).2.2 u hu (by omega) (Or.inl h')
theorem zrun {N : Nat} (hN : N ≤ 500) : ∀ (k n i B : Nat) (C R : zz_S), zI0 B C R → i + k = N → B + 8 * k < 2147483000 → zr (FP_run_21 (n + k + 1) (nI N) (nI i) C) (MO_run_22 (n + k + 1) (nI N) (nI i) R) (fun a C' b R' => a = Sum.inl b ∧ zI0 (B + 8 * k) C' R') := by
  intro k
  induction k with
  | zero =>
    intro n i B C R h hi hB
    show zr (FP_run_21b (FP_run_21 (n + 0)) (nI N) (nI i) C) (MO_run_22b (MO_run_22 (n + 0)) (nI N) (nI i) R) _
    unfold FP_run_21b MO_run_22b
    rw [if_pos (nI_le (by omega) (by omega)), if_pos h.2, if_pos (nI_le (by omega) (by omega))]
    exact zr_ret ⟨rfl, h⟩
  | succ k ih =>
    intro n i B C R h hi hB
    obtain ⟨⟨c, r, m, d, w, e, v, rfl, rfl, hm, hT⟩, h0⟩ := h
    have hI : zI0 B (zC c m d w) (zR r m e v) := ⟨⟨c, r, m, d, w, e, v, rfl, rfl, hm, hT⟩, h0⟩
    show zr (FP_run_21b (FP_run_21 (n + k + 1)) (nI N) (nI i) (zC c m d w)) (MO_run_22b (MO_run_22 (n + k + 1)) (nI N) (nI i) (zR r m e v)) _
    unfold FP_run_21b MO_run_22b RO_runner_f
    obtain ⟨q, b, e1, e2, hq⟩ := zrunner (m := m) (d := d) (e := e) (w := w) (v := v) hT
    rw [if_neg (nI_ge (by omega) (by omega)), if_pos h0, if_neg (nI_ge (by omega) (by omega)), e1, zz_bd_s, zz_bd_s, e2, zz_bd_s]
    rcases hq with ⟨rfl, rfl⟩ | ⟨t, ht, rfl, rfl, h7⟩
    · rw [zz_oc_n, if_pos (by decide)]
      exact zr_ret ⟨rfl, zI0_up hI (by omega)⟩
    · rw [zz_oc_s, zz_lt6 ht, zz_gd_t, if_neg (nI_pos (by omega)), e2, zz_bd_s, zz_nm_e, zR_sp3, nI_1]
      refine zr_bd (zstep (r := zz_sp r 3 (nI t)) hm hT ht h7 rfl (by omega) h0) (fun _ C' _ R' z => ?_)
      have := ih n (i + 1) (B + 8) C' R' z (by omega) (by omega)
      rw [show B + 8 * (k + 1) = B + 8 + 8 * k from by omega]
      exact this
theorem zc_run {B : Nat} {C R : zz_S} (h : zI B C R) (hB : B < 2147470000) (x : Int32) : zr (FP_run_f x C) (MO_run_f x R) (zRv ze2 (B + 4000)) := by
  obtain ⟨c, r, m, d, w, e, v, rfl, rfl, hm, hT⟩ := h
  unfold FP_run_f MO_run_f FP_run_11 MO_run_12 MO_run_17
  have bad : zr (some ((Sum.inr 2 : Int32 ⊕ Nat), zC c m d w)) (zz_nm (zz_sp (zR r m e v) 0 1) fun s_7 => (MO_run_22 501 x (0 : Int32) s_7)) (zRv ze2 (B + 4000)) := by
    rw [zz_nm_e]
    show zr _ (MO_run_22b (MO_run_22 500) x (0 : Int32) (zz_sp (zR r m e v) 0 1)) _
    unfold MO_run_22b
    rw [if_neg (zsg1 _ (by decide))]
    exact zr_ret ⟨zI_up (zI_0 hm hT 1) (by omega), Or.inr ⟨2, rfl, rfl, by decide⟩⟩
  by_cases h0 : x < 0
  · rw [if_pos h0, if_pos h0]
    exact bad
  · rw [if_neg h0, if_neg h0]
    by_cases h5 : x ≤ 500
    · rw [if_pos h5, if_pos h5, zz_nm_e]
      obtain ⟨N, hN, rfl⟩ := nI_of2 (M := 500) (n := 500) (by decide) h0 h5
      have := zrun hN N (500 - N) 0 B (zC c m d w) (zz_sp (zR r m e v) 0 0) ⟨zI_0 hm hT 0, rfl⟩ (by omega) (by omega)
      rw [show 500 - N + N + 1 = 501 from by omega] at this
      exact zr_mono this (fun a C' b R' z => ⟨zI_up z.2.1 (by omega), Or.inl ⟨z.1, z.2.2⟩⟩)
    · rw [if_neg h5, if_neg h5]
      exact bad
theorem zc_running {B : Nat} {C R : zz_S} (h : zI B C R) : zr (FP_running_f C) (MO_running_f R) (zRi B) := by
  obtain ⟨c, r, m, d, w, e, v, rfl, rfl, hm, hT⟩ := h
  unfold FP_running_f MO_running_f RO_runner_f
  rw [zz_nm_e, zR_sp0]
  have hI : zI B (zC c m d w) (zR (zz_sp r 0 0) m e v) := ⟨c, _, m, d, w, e, v, rfl, rfl, hm, hT⟩
  obtain ⟨q, b, e1, e2, hq⟩ := zrunner (r := zz_sp r 0 0) (m := m) (d := d) (e := e) (w := w) (v := v) hT
  rw [e1, e2, zz_bd_s, zz_bd_s, zz_bd_s]
  rcases hq with ⟨rfl, rfl⟩ | ⟨t, ht, rfl, rfl, h7⟩
  · exact zr_ret ⟨hI, rfl⟩
  · rw [zz_oc_s, zz_lt6 ht, zz_gd_t]
    exact zr_ret ⟨hI, rfl⟩
theorem ztask (x : Int32) : (∃ t, t < 6 ∧ x = nI t ∧ (∀ st, RO_taskAt_f x st = some (some t, st)) ∧ ∀ st, MO_isNumber_f x 6 st = some (1, st)) ∨ ((∀ st, RO_taskAt_f x st = some (none, st)) ∧ ∀ st, MO_isNumber_f x 6 st = some (0, st)) := by
  unfold RO_taskAt_f
  rcases znum 6 (by decide) (M := 6) rfl x with ⟨t, ht, et, q1, q2, q⟩ | ⟨q1, q⟩
  · refine Or.inl ⟨t, ht, et, fun st => ?_, q⟩
    rw [if_neg q1, if_neg q2, et, zi_in (by decide) ht, zz_gd_t, nI_clamp (by omega), zz_nm_e]
  · refine Or.inr ⟨fun st => ?_, q⟩
    by_cases h0 : x < 0
    · rw [if_pos h0]
    · rw [if_neg h0, if_pos (q1.resolve_left h0)]
theorem zc_resume {B : Nat} {C R : zz_S} (h : zI B C R) (hB : B < 2147483000) (x : Int32) : zr (FP_resume_f x C) (MO_resume_f x R) (zRu ze01 (B + 1)) := by
  obtain ⟨c, r, m, d, w, e, v, rfl, rfl, hm, hT⟩ := h
  unfold FP_resume_f MO_resume_f MO_resume_29
  rcases ztask x with ⟨t, ht, rfl, q1, q2⟩ | ⟨q1, q2⟩
  · rw [q1, q2, zz_bd_s, zz_bd_s, zz_oc_s, zz_lt6 ht, zz_gd_t, if_neg z10, zi_in (by decide) ht, zz_gd_t, nI_clamp (by omega), zC_ag7, zR_ag5, zTx_st hT ht]
    by_cases h4 : zz_ag r 5 t = 4
    · rw [if_pos h4, if_pos h4, RO_makeReady_p, zz_bd_s, zz_nm_e, if_pos (zsg00 _ _), MO_ready_p ht, zz_bd_s, zcE_C, zR_sp0, zrR_R]
      refine zr_ret ⟨⟨_, _, m, d, w, e, v, rfl, rfl, hm, zT_ready (r := zz_sp r 0 0) (zTx_off (t := t) (t' := t) hT) (by omega) ?_⟩, Or.inl ⟨rfl, rfl⟩⟩
      obtain ⟨⟨s, hs, e1, e2, g⟩, -⟩ := hT.2 t ht (by omega)
      refine g.2.1 (fun z => ?_)
      rw [e2, z] at h4
      exact absurd h4 (by decide)
    · rw [if_neg h4, if_neg h4, zz_nm_e, if_neg (zsg1 _ (by decide))]
      exact zr_ret ⟨zI_up (zI_0 hm hT 2) (by omega), Or.inr ⟨1, rfl, rfl, by decide⟩⟩
  · rw [q1, q2, zz_bd_s, zz_bd_s, zz_oc_n, if_pos rfl, zz_nm_e, if_neg (zsg1 _ (by decide))]
    exact zr_ret ⟨zI_up (zI_0 hm hT 1) (by omega), Or.inr ⟨0, rfl, rfl, by decide⟩⟩
theorem zc_kill {B : Nat} {C R : zz_S} (h : zI B C R) (x : Int32) : zr (FP_kill_f x C) (MO_kill_f x R) (zRu ze01 B) := by
  obtain ⟨c, r, m, d, w, e, v, rfl, rfl, hm, hT⟩ := h
  unfold FP_kill_f MO_kill_f MO_kill_28
  rcases ztask x with ⟨t, ht, rfl, q1, q2⟩ | ⟨q1, q2⟩
  · rw [q1, q2, zz_bd_s, zz_bd_s, zz_oc_s, zz_lt6 ht, zz_gd_t, if_neg z10, zi_in (by decide) ht, zz_gd_t, nI_clamp (by omega), zC_ag7, zR_ag5, zTx_st hT ht]
    by_cases h4 : zz_ag r 5 t = 0
    · rw [if_pos h4, if_pos h4, zz_nm_e, if_neg (zsg1 _ (by decide))]
      exact zr_ret ⟨zI_0 hm hT 2, Or.inr ⟨1, rfl, rfl, by decide⟩⟩
    · rw [if_neg h4, if_neg h4, TA_clear_p, zz_bd_s, zz_nm_e, if_pos (zsg00 _ _), zz_gd_t, zcK_C, zR_sp0, zR_ap5, zz_nm_e]
      exact zr_ret ⟨⟨_, _, m, d, w, e, v, rfl, rfl, hm, zT_clear (r := r) (zTx_off (t := t) (t' := t) hT) (zOr_ap 5 0 (zz_sp r 0 0) (by decide)) rfl (by rw [zz_ag_ap, if_pos ⟨rfl, rfl⟩])⟩, Or.inl ⟨rfl, rfl⟩⟩
  · rw [q1, q2, zz_bd_s, zz_bd_s, zz_oc_n, if_pos rfl, zz_nm_e, if_neg (zsg1 _ (by decide))]
    exact zr_ret ⟨zI_0 hm hT 1, Or.inr ⟨0, rfl, rfl, by decide⟩⟩
theorem zc_stack {B : Nat} {C R : zz_S} (h : zI B C R) (x y : Int32) : zr (FP_stack_f x y C) (MO_stack_f x y R) (zRi B) := by
  obtain ⟨c, r, m, d, w, e, v, rfl, rfl, hm, hT⟩ := h
  unfold FP_stack_f MO_stack_f TA_wordFromTop_f
  rw [zz_nm_e, zR_sp0]
  have hI : zI B (zC c m d w) (zR (zz_sp r 0 0) m e v) := ⟨c, _, m, d, w, e, v, rfl, rfl, hm, hT⟩
  rcases ztask x with ⟨t, ht, rfl, q1, q2⟩ | ⟨q1, q2⟩
  · rw [q1, q2, zz_bd_s, zz_bd_s, zz_oc_s, zz_lt6 ht, zz_gd_t, if_neg z10, zi_in (by decide) ht, zz_gd_t, nI_clamp (by omega), zR_ag5, show zz_ag (zz_sp r 0 0) 5 t = zz_ag r 5 t from rfl, zC_ag10, zR_ag8, show zz_ag (zz_sp r 0 0) 8 t = zz_ag r 8 t from rfl, zz_gd_t, zz_gd_t]
    obtain ⟨⟨s, hs, e1, e2, g⟩, -⟩ := hT.2 t ht (by omega)
    rw [e2]
    by_cases s0 : s = 0
    · subst s0
      rw [if_pos nI_0, (g.1 rfl).2.2]
      by_cases h0 : y < 0
      · rw [if_pos h0, zz_bd_s]
        exact zr_ret ⟨hI, rfl⟩
      · rw [if_neg h0, if_pos (Int32.not_lt.mp h0), zz_bd_s]
        exact zr_ret ⟨hI, rfl⟩
    · rw [if_neg (nI_ne0 (by omega) (by omega))]
      obtain ⟨k8, k9, kw, dt, hdt, k10, k11, k12⟩ := g.2.1 s0
      rw [k10, k11]
      by_cases h0 : y < 0
      · rw [if_pos h0, if_pos h0, zz_bd_s]
        exact zr_ret ⟨hI, rfl⟩
      · rw [if_neg h0, if_neg h0]
        obtain ⟨k, hk, rfl⟩ := nI_of h0
        by_cases h1 : k < dt
        · rw [if_neg (nI_ge h1 (by omega)), if_pos (nI_lt h1 (by omega))]
          have a1 : nI dt - 1 - nI k = nI (dt - 1 - k) := by
            rw [show (1 : Int32) = nI 1 from by decide, zi_sub (by omega), zi_sub (by omega)]
          have a2 : (8 : Int32) * nI t + nI dt - 1 - nI k = nI (8 * t + (dt - 1 - k)) := by
            rw [show (8 : Int32) = nI 8 from by decide, show (1 : Int32) = nI 1 from by decide, zi_mul, nI_add, zi_sub (by omega), zi_sub (by omega)]
            congr 1
            omega
          rw [a1, zz_nm_e, zi_in (by decide) (show dt - 1 - k < 8 by omega), zz_gd_t, zz_bd_s, nI_clamp (by omega), zC_ag20, a2, zz_nm_e, zi_in (by decide) (show 8 * t + (dt - 1 - k) < 48 by omega), zz_gd_t, nI_clamp (by omega), zR_ag9]
          exact zr_ret ⟨hI, (k12 _ (by omega)).1⟩
        · rw [if_pos (nI_le (by omega) (by omega)), if_neg (nI_nlt (by omega) (by omega)), zz_bd_s]
          exact zr_ret ⟨hI, rfl⟩
  · rw [q1, q2, zz_bd_s, zz_bd_s, zz_oc_n, if_pos rfl]
    exact zr_ret ⟨hI, rfl⟩
