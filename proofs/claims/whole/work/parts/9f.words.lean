/-! the words of a process, in and out -/
def zEw (A : Nat) (c c' : zz_S) : Prop := (∀ a i, a ≠ A → zz_ag c' a i = zz_ag c a i) ∧ (∀ j, zz_sg c' j = zz_sg c j) ∧ (∀ j, zz_qg c' j = zz_qg c j) ∧ ∀ a i, zz_lg c' a i = zz_lg c a i
theorem zEw_ap {A : Nat} {c c' : zz_S} {i : Nat} {v : Int32} (h : zEw A (zz_ap c A i v) c') : zEw A c c' := by
  obtain ⟨h1, h2, h3, h4⟩ := h
  refine ⟨fun a j ha => ?_, h2, h3, h4⟩
  rw [h1 a j ha, zz_ag_ap, if_neg (fun z => ha z.1)]
theorem WS_load_e {t d : Nat} {c : zz_S} {m : zM} (hd : d ≤ 8) : ∀ (k n i : Nat) (w : Nat → Int32), i + k = d → ∃ w', WS_loadFrom_10 (n + k + 1) t (nI i) (zC c m d w) = some ((), zC c m d w') ∧ ∀ j, j < d → w' j = if i ≤ j then zz_ag c (20 + t) j else w j := by
  intro k
  induction k with
  | zero =>
    intro n i w hi
    refine ⟨w, ?_, fun j hj => by rw [if_neg (by omega)]⟩
    show WS_loadFrom_10b (WS_loadFrom_10 (n + 0)) t (nI i) (zC c m d w) = _
    unfold WS_loadFrom_10b
    rw [zC_sg13, if_pos (nI_le (by omega) (by omega))]
  | succ k ih =>
    intro n i w hi
    obtain ⟨w', e, h⟩ := ih n (i + 1) (upd w i (zz_ag c (20 + t) i)) (by omega)
    refine ⟨w', ?_, fun j hj => ?_⟩
    · show WS_loadFrom_10b (WS_loadFrom_10 (n + k + 1)) t (nI i) (zC c m d w) = _
      unfold WS_loadFrom_10b
      rw [zC_sg13, if_neg (nI_ge (by omega) (by omega)), zi_in (N := 8) (by decide) (by omega), zi_in (N := 9) (by decide) (by omega), zz_gd_t, zz_gd_t, nI_clamp (by omega), zC_ag20, zC_ap6, zz_nm_e, nI_1]
      exact e
    · rw [h j hj]
      by_cases a : j = i
      · subst a
        rw [if_neg (by omega), if_pos (by omega), pk_us]
      · by_cases b : i ≤ j
        · rw [if_pos (by omega), if_pos b]
        · rw [if_neg (by omega), if_neg b, pk_un a]
theorem MO_load_e {t : Nat} {fr : Int32} {r : zz_S} {m : zM} {e : Nat} (ht : t < 6) (h3 : zz_sg r 3 = nI t) : ∀ (k n i : Nat) (v : Nat → Int32), i + k = 8 → ∃ v', MO_instruction_50 (n + k + 1) fr (nI i) (zR r m e v) = MO_instruction_50 (n + 1) fr (nI 8) (zR r m e v') ∧ ∀ j, j < 8 → v' j = if i ≤ j then zz_ag r 9 (8 * t + j) else v j := by
  intro k
  induction k with
  | zero =>
    intro n i v hi
    have : i = 8 := by omega
    subst this
    exact ⟨v, rfl, fun j hj => by rw [if_neg (by omega)]⟩
  | succ k ih =>
    intro n i v hi
    obtain ⟨v', q, h⟩ := ih n (i + 1) (upd v i (zz_ag r 9 (8 * t + i))) (by omega)
    refine ⟨v', ?_, fun j hj => ?_⟩
    · rw [← q]
      show MO_instruction_50b (MO_instruction_50 (n + k + 1)) fr (nI i) (zR r m e v) = _
      have e8 : (8 : Int32) = nI 8 := by decide
      unfold MO_instruction_50b
      rw [if_neg (by rw [e8]; exact nI_ge (by omega) (by omega)), zR_sg3, h3, e8, zi_mul, nI_add, zz_nm_e, zi_in (N := 48) (by decide) (show 8 * t + i < 48 by omega), zi_in (N := 48) (by decide) (show i < 48 by omega), zz_gd_t, zz_gd_t, nI_clamp (show 8 * t + i < 2 ^ 31 by omega), nI_clamp (show i < 2 ^ 31 by omega), zR_ag9, zR_ap16, zz_nm_e, nI_1]
    · rw [h j hj]
      by_cases a : j = i
      · subst a
        rw [if_neg (by omega), if_pos (by omega), pk_us]
      · by_cases b : i ≤ j
        · rw [if_pos (by omega), if_pos b]
        · rw [if_neg (by omega), if_neg b, pk_un a]
theorem WS_save_e {t d : Nat} {m : zM} {w : Nat → Int32} (hd : d ≤ 8) : ∀ (k n i : Nat) (c : zz_S), i + k = d → ∃ c', WS_saveTo_10 (n + k + 1) t (nI i) (zC c m d w) = some ((), zC c' m d w) ∧ zEw (20 + t) c c' ∧ ∀ j, zz_ag c' (20 + t) j = if i ≤ j ∧ j < d then w j else zz_ag c (20 + t) j := by
  intro k
  induction k with
  | zero =>
    intro n i c hi
    refine ⟨c, ?_, ⟨fun _ _ _ => rfl, fun _ => rfl, fun _ => rfl, fun _ _ => rfl⟩, fun j => by rw [if_neg (by omega)]⟩
    show WS_saveTo_10b (WS_saveTo_10 (n + 0)) t (nI i) (zC c m d w) = _
    unfold WS_saveTo_10b
    rw [zC_sg13, if_pos (nI_le (by omega) (by omega))]
  | succ k ih =>
    intro n i c hi
    obtain ⟨c', e, h1, h⟩ := ih n (i + 1) (zz_ap c (20 + t) i (w i)) (by omega)
    refine ⟨c', ?_, zEw_ap h1, fun j => ?_⟩
    · show WS_saveTo_10b (WS_saveTo_10 (n + k + 1)) t (nI i) (zC c m d w) = _
      unfold WS_saveTo_10b
      rw [zC_sg13, if_neg (nI_ge (by omega) (by omega)), zi_in (N := 9) (by decide) (by omega), zi_in (N := 8) (by decide) (by omega), zz_gd_t, zz_gd_t, nI_clamp (by omega), zC_ag6, zC_ap20, zz_nm_e, nI_1]
      exact e
    · rw [h j, zz_ag_ap]
      by_cases a : j = i
      · subst a
        rw [if_neg (by omega), if_pos ⟨rfl, rfl⟩, if_pos (by omega)]
      · rw [if_neg (c := 20 + t = 20 + t ∧ j = i) (fun z => a z.2)]
        by_cases b : i ≤ j ∧ j < d
        · rw [if_pos (by omega), if_pos b]
        · rw [if_neg (by omega), if_neg b]
theorem MO_save_e {t : Nat} {m : zM} {e : Nat} {v : Nat → Int32} (ht : t < 6) : ∀ (k n i : Nat) (r : zz_S), zz_sg r 3 = nI t → i + k = 8 → ∃ r', MO_instruction_306 (n + k + 1) (nI i) (zR r m e v) = MO_instruction_306 (n + 1) (nI 8) (zR r' m e v) ∧ zEw 9 r r' ∧ (∀ j, j < 8 → zz_ag r' 9 (8 * t + j) = if i ≤ j then v j else zz_ag r 9 (8 * t + j)) ∧ ∀ l, (l < 8 * t ∨ 8 * t + 8 ≤ l) → zz_ag r' 9 l = zz_ag r 9 l := by
  intro k
  induction k with
  | zero =>
    intro n i r h3 hi
    have : i = 8 := by omega
    subst this
    exact ⟨r, rfl, ⟨fun _ _ _ => rfl, fun _ => rfl, fun _ => rfl, fun _ _ => rfl⟩, fun j hj => by rw [if_neg (by omega)], fun _ _ => rfl⟩
  | succ k ih =>
    intro n i r h3 hi
    obtain ⟨r', q, h1, h, h'⟩ := ih n (i + 1) (zz_ap r 9 (8 * t + i) (v i)) h3 (by omega)
    refine ⟨r', ?_, zEw_ap h1, fun j hj => ?_, fun l hl => ?_⟩
    · rw [← q]
      show MO_instruction_306b (MO_instruction_306 (n + k + 1)) (nI i) (zR r m e v) = _
      have e8 : (8 : Int32) = nI 8 := by decide
      unfold MO_instruction_306b
      rw [if_neg (by rw [e8]; exact nI_ge (by omega) (by omega)), zR_sg3, h3, e8, zi_mul, nI_add, zi_in (N := 48) (by decide) (show i < 48 by omega), zz_gd_t, zz_nm_e, zi_in (N := 48) (by decide) (show 8 * t + i < 48 by omega), zz_gd_t, nI_clamp (show 8 * t + i < 2 ^ 31 by omega), nI_clamp (show i < 2 ^ 31 by omega), zR_ag16, zR_ap9, zz_nm_e, nI_1]
    · rw [h j hj, zz_ag_ap]
      by_cases a : j = i
      · subst a
        rw [if_neg (by omega), if_pos ⟨rfl, rfl⟩, if_pos (by omega)]
      · rw [if_neg (c := 9 = 9 ∧ 8 * t + j = 8 * t + i) (fun z => by omega)]
        by_cases b : i ≤ j
        · rw [if_pos (by omega), if_pos b]
        · rw [if_neg (by omega), if_neg b]
    · rw [h' l hl, zz_ag_ap, if_neg (fun z => by omega)]
/-- all of a side's state, and what is between two instructions -/
def zI (B : Nat) (C R : zz_S) : Prop := ∃ c r m d w e v, C = zC c m d w ∧ R = zR r m e v ∧ zm_ok m ∧ zTx B 6 c r
theorem zI_up {B B' : Nat} {C R : zz_S} (h : zI B C R) (hB : B ≤ B') : zI B' C R := by
  obtain ⟨c, r, m, d, w, e, v, h1, h2, h3, h4⟩ := h
  exact ⟨c, r, m, d, w, e, v, h1, h2, h3, zTx_up h4 hB⟩
def zI0 (B : Nat) (C R : zz_S) : Prop := zI B C R ∧ zz_sg R 0 = 0
theorem zI0_up {B B' : Nat} {C R : zz_S} (h : zI0 B C R) (hB : B ≤ B') : zI0 B' C R := ⟨zI_up h.1 hB, h.2⟩
def z106 (C : zz_S) : Option (Unit × zz_S) := (zz_bd (ME_hasFailed_f C) fun r_3 s_2 => (if r_3 = 0 then (zz_bd (PR_settle_f s_2) fun _ s_4 => (some ((), s_4))) else (zz_bd (ME_undo_f s_2) fun _ s_5 => (zz_oc (zz_qg s_5 0) none fun t_6 => zz_gd (Nat.blt t_6 6) (zz_bd (ME_faultHeld_f s_5) fun r_8 s_7 => (zz_bd (RO_halt_f t_6 r_8 s_7) fun _ s_9 => (some ((), s_9))))))))
theorem zXc_O {c c' : zz_S} (h : zXc c c') (t : Nat) : zOc t c c' := fun u _ _ => ⟨⟨h.2.2.2 _ _, h.2.2.2 _ _, h.2.2.2 _ _, h.2.2.2 _ _, h.2.2.2 _ _, h.2.2.2 _ _, h.2.2.2 _ _, h.2.2.2 _ _⟩, fun _ _ => h.2.2.2 _ _⟩
theorem zXr_O {t : Nat} {r r' : zz_S} (h : zXr t r r') : zOr t r r' := fun u _ hne => ⟨⟨h.2.1 _ _ (by decide) (Or.inl hne), h.2.1 _ _ (by decide) (Or.inl hne), h.2.1 _ _ (by decide) (Or.inl hne), h.2.1 _ _ (by decide) (Or.inl hne), h.2.1 _ _ (by decide) (Or.inl hne), h.2.1 _ _ (by decide) (Or.inl hne), h.2.1 _ _ (by decide) (Or.inl hne), h.2.2.1 _ _⟩, fun i hi => h.2.1 _ _ (by decide) (Or.inr (by decide))⟩
/-- the process that runs, and what both sides have set before its instruction -/
def zG (B t : Nat) (fr : Int32) (c r : zz_S) : Prop := zU t fr c r ∧ zTx B 6 c r ∧ zz_ag c 7 t = 1 ∧ zz_sg c 4 = 1 ∧ zz_sg c 5 = 0 ∧ zz_sg c 6 = 0 ∧ zz_sg c 7 = 0 ∧ zz_sg r 9 = 0 ∧ zz_sg r 10 = 0 ∧ (zz_sg r 11 = -1 ∧ zz_sg r 0 = 0) ∧ B < 2147483000
theorem zG_k {B t : Nat} {fr : Int32} {c r : zz_S} (h : zG B t fr c r) : zk c r t ∧ zz_ag r 5 t = 1 ∧ zz_ag c 11 t = -1 ∧ zz_ag c 12 t = 0 ∧ zz_ag c 13 t = 0 := by
  obtain ⟨⟨ht, -⟩, hT, h7, -⟩ := h
  obtain ⟨s, hs, e1, e2, g⟩ := (hT.2 t ht (by omega)).1
  have : s = 1 := by
    rw [h7] at e1
    exact ((nI_eq (by omega) (by decide)).mp (e1.symm.trans (show (1 : Int32) = nI 1 from by decide)))
  subst this
  exact ⟨g.2.1 (by decide), e2, g.2.2.2.1 (by omega), g.2.2.2.2.2.1 (by decide), g.2.2.2.2.2.2.2 (by decide)⟩
theorem zt_fault {B t : Nat} {fr : Int32} {c r C R : zz_S} (hG : zG B t fr c r) (h : zX t c r C R) (hf : ¬ zF C) : zr (z106 C) (MO_instruction_212 fr R) (fun _ C' _ R' => zI0 (B + 1) C' R') := by
  have hk := (zG_k hG).1
  obtain ⟨⟨ht, hq, h9, h3, h7⟩, hT, hst, -, -, -, -, -, -, r11, hB⟩ := hG
  obtain ⟨c', r', hL, hc, hr⟩ := h
  have hR1 := zL_R1f hL hf
  obtain ⟨m, d, w, e, v, rfl, rfl, hm, hkm, hd, he, hD, hs⟩ := hL
  have hf' := hf
  rw [zF_iff hm] at hf'
  unfold z106 ME_hasFailed_f MO_instruction_212
  rw [if_neg (show ¬ zz_sg (zC c' m d w) 1 = 0 from hf), zz_bd_s, if_neg (by decide), ME_undo_e hm (by omega), zz_bd_s, zC_qg, hc.2.2.1, hq, zz_oc_s, zz_lt6 ht, zz_gd_t]
  unfold ME_faultHeld_f
  rw [zz_bd_s, RO_halt_p, zz_bd_s, zC_sg1, zcE_C, zC_ap13]
  simp only [hR1, if_false]
  rw [MO_undo_r hm (by omega), zz_bd_s, zz_nm_e, zR_sg3, hr.1, h3, zi_in (by decide) ht, zz_gd_t, nI_clamp (by omega), zR_ap5, zz_nm_e, zR_sg3, show zz_sg (zz_ap r' 5 t 4) 3 = zz_sg r' 3 from rfl, hr.1, h3, zz_nm_e, zi_in (by decide) ht, zz_gd_t, nI_clamp (by omega), zR_ap7, zz_nm_e, zR_sg3, show zz_sg (zz_ap (zz_ap r' 5 t 4) 7 t fr) 3 = zz_sg r' 3 from rfl, hr.1, h3, zz_nm_e, zi_in (by decide) ht, zz_gd_t, nI_clamp (by omega), zR_sg2, zR_ap12, zz_nm_e, zR_sg3, show zz_sg (zz_ap (zz_ap (zz_ap r' 5 t 4) 7 t fr) 12 t (nI (zmf (za_undo m)))) 3 = zz_sg r' 3 from rfl, hr.1, h3, zz_nm_e, zi_in (by decide) ht, zz_gd_t, nI_clamp (by omega), zR_ap11, zz_nm_e]
  refine zr_ret ⟨⟨_, _, _, _, _, _, _, rfl, rfl, za_undo_ok hm, ?_⟩, hr.2.2.2.trans r11.2⟩
  obtain ⟨k8, k9, kw, dd, hdd, k10, k11, k12⟩ := hk
  refine zT_halt (r := r') (zTx_eq (zTx_off (t := t) (t' := t) hT) (zXc_O hc t) (zXr_O hr) ?_ ?_ ?_) (by omega) (fun _ _ _ => ⟨⟨rfl, rfl, rfl, rfl, rfl, rfl, rfl, rfl⟩, fun _ _ => rfl⟩) rfl ?_ ?_ ?_ ?_
  · have := hT.1
    unfold zTg at this ⊢
    rw [hc.2.1, hr.2.2.1]
    exact this
  · rw [hc.2.1]; exact Int.le_refl _
  · rw [hr.2.2.1]; exact Int.le_refl _
  · rw [hc.2.2.2, hr.2.1 6 t (by decide) (Or.inr (by decide))]; exact k8
  · rw [hc.2.2.2]; exact h9
  · rw [← h9]; exact kw
  · refine ⟨dd, hdd, ?_, ?_, fun i hi => ?_⟩
    · rw [hc.2.2.2]; exact k10
    · rw [hr.2.1 8 t (by decide) (Or.inr (by decide))]; exact k11
    · rw [hc.2.2.2, hr.2.1 9 _ (by decide) (Or.inr (by decide))]; exact k12 i hi
