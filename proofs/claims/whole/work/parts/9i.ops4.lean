/-! the monitors, the conditions, new processes -/
theorem zi_p12 (x : Int32) : zi_p (x &&& 4095) = zi_p x := by
  unfold zi_p
  rw [zi_12, zi_tn (by omega)]
  omega
theorem zi_o12 (x : Int32) : zi_o (x &&& 4095) = zi_o x := by
  unfold zi_o
  rw [zi_12, zi_tn (by omega)]
  omega
theorem za_pl12 (x : Int32) (m : zM) : za_pl m (x &&& 4095) = za_pl m x := by
  unfold za_pl
  rw [zi_p12, zi_o12]
theorem za_read12 (x : Int32) (m : zM) : za_read (x &&& 4095) m = za_read x m := by
  unfold za_read
  rw [zi_p12, za_pl12]
theorem za_write12 (x v : Int32) (m : zM) : za_write (x &&& 4095) v m = za_write x v m := by
  unfold za_write
  rw [zi_p12, za_pl12]
theorem zL_read12 {n D : Nat} {c r C R : zz_S} (h : zL n D c r C R) {a b : Int32} (hab : zF C → a = b &&& 4095) : zr (ME_read_f a C) (MO_read_f b R) (fun x C' y R' => zL n D c r C' R' ∧ (zF C' → zF C) ∧ x = y ∧ zWd y ∧ (¬ zF C' → y = 0)) := by
  obtain ⟨m, d, w, e, v, rfl, rfl, hm, hk, hd, he, h9, hs⟩ := h
  rw [ME_read_e hm, MO_read_r hm]
  by_cases hf : zmf m = 0
  · have := hab ((zF_iff hm).mpr hf)
    subst this
    rw [za_read12]
    exact zr_ret ⟨⟨_, d, w, e, v, rfl, rfl, za_read_ok b hm, by rw [za_read_k]; exact hk, hd, he, h9, fun _ => hs hf⟩, fun _ => (zF_iff hm).mpr hf, rfl, za_read_w b hm, fun z => (za_read_z).resolve_left (by rw [zF_iff (za_read_ok b hm)] at z; exact z)⟩
  · rw [za_read_f hf, za_read_f hf]
    exact zr_ret ⟨⟨_, d, w, e, v, rfl, rfl, hm, hk, hd, he, h9, hs⟩, id, rfl, ⟨0, by decide, nI_0.symm⟩, fun _ => rfl⟩
theorem zL_write12 {n D : Nat} {c r C R : zz_S} (h : zL n D c r C R) (hn : n < 16) {a b x y : Int32} (hab : zF C → a = b &&& 4095 ∧ x &&& 65535 = y &&& 65535) : zr (ME_write_f a x C) (MO_write_f b y R) (fun _ C' _ R' => zL (n + 1) D c r C' R' ∧ (zF C' → zF C)) := by
  obtain ⟨m, d, w, e, v, rfl, rfl, hm, hk, hd, he, h9, hs⟩ := h
  rw [ME_write_e hm (by omega), MO_write_r hm (by omega)]
  by_cases hf : zmf m = 0
  · obtain ⟨e1, e2⟩ := hab ((zF_iff hm).mpr hf)
    subst e1
    rw [za_write12, za_write_v e2]
    have hk' := za_write_k b y m
    exact zr_ret ⟨⟨_, d, w, e, v, rfl, rfl, za_write_ok _ _ hm, by omega, hd, he, h9, fun _ => hs hf⟩, fun _ => (zF_iff hm).mpr hf⟩
  · rw [za_write_f hf, za_write_f hf]
    exact zr_ret ⟨⟨_, d, w, e, v, rfl, rfl, hm, by omega, hd, he, h9, hs⟩, id⟩
theorem zL_qp {n D : Nat} {c r C R : zz_S} (h : zL n D c r C R) (k : Nat) (v : Option Nat) : zL n D (zz_qp c k v) r (zz_qp C k v) R := by
  obtain ⟨m, d, w, e, u, rfl, rfl, q⟩ := h
  exact ⟨m, d, w, e, u, rfl, rfl, q⟩
theorem zL_lg {n D : Nat} {c r C R : zz_S} (h : zL n D c r C R) (a i : Nat) : zz_lg R a i = zz_lg r a i := by
  obtain ⟨m, d, w, e, v, rfl, rfl, -⟩ := h; rfl
theorem zWd_12 {x : Int32} (h : zWd x) : ∃ a, a < 4096 ∧ x &&& 4095 = nI a := ⟨_, Nat.mod_lt _ (by decide), zi_12 x⟩
/-- the reference has looked for one to wake -/
def zWk (s : Nat) (x : Int32) (r r' : zz_S) : Prop := ∃ b R0, MO_firstOf_f (nI s) x R0 = some (b, R0) ∧ (∀ i, zz_ag R0 5 i = zz_ag r 5 i ∧ zz_ag R0 6 i = zz_ag r 6 i ∧ zz_ag R0 10 i = zz_ag r 10 i ∧ zz_lg R0 1 i = zz_lg r 1 i) ∧ zz_sg R0 9 = 0 ∧ ((b = -1 ∧ r' = r) ∨ ∃ t, t < 6 ∧ b = nI t ∧ r' = zrW 0 t r)
theorem zL_rW {n D : Nat} {c r C R : zz_S} (h : zL n D c r C R) (W t : Nat) : zL n D c (zrW W t r) C (zrW W t R) := zL_rsp (zL_rap h 17 W (nI t) rfl rfl rfl rfl rfl rfl rfl) 9 _ rfl rfl rfl
theorem zG_Rl {B t s a n D : Nat} {fr x : Int32} {c r c' C R : zz_S} (hG : zG B t fr c r) (h : zL n D c' r C R) (hs : s = 2 ∨ s = 3) (hx : x &&& 4095 = nI a) : zRl s a x 0 c R := by
  have h5 := (zG_k hG).2.1
  obtain ⟨⟨ht, -⟩, hT, hst, -⟩ := hG
  have n1 : ¬ (1 : Int32) = nI s := by rcases hs with q | q <;> subst q <;> decide
  refine zRl_of (zTx_off (t := t) (t' := t) hT) hs hx (fun _ _ _ => ⟨⟨rfl, rfl, rfl, rfl, rfl, rfl, rfl, rfl⟩, fun _ _ => rfl⟩) (fun u hu hne => ⟨zL_ra5 h u, zL_ra6 h u, zL_ra10 h u, zL_lg h 1 u⟩) (fun _ => by rw [hst]; exact n1) (fun _ => by rw [zL_ra5 h, h5]; exact n1)
theorem zL_wake {B t s a n D : Nat} {fr x : Int32} {c r c' C R : zz_S} (hG : zG B t fr c r) (h : zL n D c' r C R) (hs : s = 2 ∨ s = 3) (hx : x &&& 4095 = nI a) : ∃ b R' r', MO_wake_f (nI s) x R = some (b, R') ∧ zL n D c' r' C R' ∧ (zF C → zWk s x r r') ∧ (¬ zF C → r' = r) ∧ (r' = r ∨ ∃ t, r' = zrW 0 t r) := by
  by_cases hf : zF C
  · have h9 : zz_sg R 9 = nI 0 := by rw [zL_r9 h]; exact hG.2.2.2.2.2.2.2.1
    obtain ⟨q, b, e1, e2, hq⟩ := zw_first (zG_Rl hG h hs hx) h9 (by decide)
    have hf2 : zz_sg R 2 ≤ 0 := by rw [zL_R1 h]; exact hf
    have ha : ∀ i, zz_ag R 5 i = zz_ag r 5 i ∧ zz_ag R 6 i = zz_ag r 6 i ∧ zz_ag R 10 i = zz_ag r 10 i ∧ zz_lg R 1 i = zz_lg r 1 i := fun i => ⟨zL_ra5 h i, zL_ra6 h i, zL_ra10 h i, zL_lg h 1 i⟩
    rcases hq with ⟨-, rfl⟩ | ⟨t', ht', -, rfl, -⟩
    · exact ⟨0, R, r, MO_wake_n hf2 e2, h, fun _ => ⟨-1, R, e2, ha, h9.trans nI_0, Or.inl ⟨rfl, rfl⟩⟩, fun _ => rfl, Or.inl rfl⟩
    · exact ⟨1, _, zrW 0 t' r, MO_wake_s hf2 h9 (by decide) ht' e2, zL_rW h 0 t', fun _ => ⟨nI t', R, e2, ha, h9.trans nI_0, Or.inr ⟨t', ht', rfl, rfl⟩⟩, fun z => absurd hf z, Or.inr ⟨t', rfl⟩⟩
  · exact ⟨0, R, r, MO_wake_j (by rw [zL_R1 h]; exact hf), h, fun z => absurd z hf, fun _ => rfl, Or.inl rfl⟩
theorem zXr_W {t t' W : Nat} {r : zz_S} : zXr t r (zrW W t' r) := ⟨rfl, fun a i h17 _ => by
  unfold zrW
  rw [zz_ag_sp, zz_ag_ap, if_neg (fun z => h17 z.1)], fun _ _ => rfl, rfl⟩
theorem zXr_or {t : Nat} {r r' : zz_S} (h : r' = r ∨ ∃ t, r' = zrW 0 t r) : zXr t r r' := by
  rcases h with rfl | ⟨t', rfl⟩
  · exact zXr_refl t _
  · exact zXr_W
def zS40 (t : Nat) (c r : zz_S) (b : Int32) (C R : zz_S) : Prop := ∃ a, a < 4096 ∧ ((b = 1 ∧ zL 7 9 (zz_sp c 8 (nI a)) r C R) ∨ (b = 0 ∧ zL 7 8 (zz_sp (zz_sp c 8 (nI a)) 6 1) (zz_ap (zz_ap r 5 t 2) 10 t (nI a)) C R))
theorem MO_more_117_e {t : Nat} {R : zz_S} (ht : t < 6) (h3 : zz_sg R 3 = nI t) : MO_more_117 R = if zz_ag R 5 t = 2 then some (0, R) else some (1, R) := by
  unfold MO_more_117
  rw [zz_nm_e, h3, zi_in (by decide) ht, zz_gd_t, nI_clamp (by omega)]
theorem zo_40 {B t : Nat} {fr gl : Int32} {gn fi nx n : Nat} {c r C R : zz_S} (h : zL 0 8 c r C R) (hs : zS fr gl gn fi nx n c r) (hG : zG B t fr c r) (h17 : zz_sg c 17 = 40) : zr (PR_coordinate_f C) (MO_act_46 (nI fi) 40 fr (nI n) R) (zP t c r (zS40 t c r)) := by
  have h5 := (zG_k hG).2.1
  obtain ⟨⟨ht, hq, h9, h3, h7⟩, hT, hst, -, -, -, -, hr9, -⟩ := hG
  unfold PR_coordinate_f MO_act_46 MO_more_f
  simp (decide := true) only [zz_nm_e, zL_c17 h, h17, ↓reduceIte]
  rw [zz_bd_a]
  refine zr_bd (zL_pop h) (fun x C1 y R1 q => ?_)
  obtain ⟨q1, hw, q2⟩ := q
  obtain ⟨a, ha, ea⟩ := zWd_12 hw
  unfold PR_enterMonitor_f ME_addressOf_f
  rw [zz_bd_s, zz_nm_e, zz_bd_a, zz_bd_a]
  have p1 := zL_sp q1 8 (x &&& 4095) rfl rfl rfl
  refine zr_bd (zL_read12 p1 (fun z => ?_)) (fun x2 C2 y2 R2 p => ?_)
  · show x &&& 4095 = y &&& 4095
    rw [(q2 z).2]
  · obtain ⟨k1, k2, rfl, -, kz⟩ := p
    by_cases e0 : x2 = 0
    · subst e0
      rw [if_pos rfl, if_pos rfl, zz_bd_a, zz_bd_a]
      refine zr_bd (zL_write12 k1 (by decide) (a := zz_sg C2 8) (b := y) (fun z => ⟨?_, rfl⟩)) (fun _ C3 _ R3 k => ?_)
      · rw [zL_c8 k1]
        show x &&& 4095 = y &&& 4095
        rw [(q2 (k2 z)).2]
      · rw [zz_bd_s, MO_more_117_e ht (by rw [zL_r3 k.1, h3]), zL_ra5 k.1, h5, if_neg (by decide), zz_bd_s, zz_bo_1, zz_gd_t]
        refine zr_ret ⟨fun z => ⟨a, ha, Or.inl ⟨rfl, ?_⟩⟩, fun z => ⟨_, _, zL_up k.1 (by decide) (by decide) (by decide), ⟨rfl, rfl, rfl, fun _ _ => rfl⟩, zXr_refl t r⟩⟩
        have e : x &&& 4095 = nI a := by rw [(q2 (k2 (k.2 z))).2, ea]
        rw [← e]
        exact zL_up k.1 (by decide) (by decide) (by decide)
    · rw [if_neg e0, if_neg e0, zz_bo_1, zz_gd_t, zz_nm_e, zz_bd_s]
      by_cases hf : zF C2
      · simp only [zL_R0t k1 hf, if_true]
        unfold MO_block_f
        rw [zz_nm_e, zL_r3 k1, h3, zi_in (by decide) ht, zz_gd_t, nI_clamp (by omega), zz_nm_e, show zz_sg (zz_ap R2 5 t 2) 3 = zz_sg R2 3 from rfl, zL_r3 k1, h3, zz_nm_e, zi_in (by decide) ht, zz_gd_t, nI_clamp (by omega), zz_nm_e, zz_bd_s, MO_more_117_e ht (by show zz_sg R2 3 = _; rw [zL_r3 k1, h3]), if_pos (by rw [zz_ag_ap, if_neg (fun z => by omega), zz_ag_ap, if_pos ⟨rfl, rfl⟩]), zz_bd_s, zz_bo_0, zz_gd_t]
        have e : x &&& 4095 = nI a := by rw [(q2 (k2 hf)).2, ea]
        have k3 := zL_rap (zL_rap (zL_sp k1 6 1 rfl rfl rfl) 5 t 2 rfl rfl rfl rfl rfl rfl rfl) 10 t (nI a) rfl rfl rfl rfl rfl rfl rfl
        rw [ea]
        rw [e] at k3
        exact zr_ret ⟨fun z => ⟨a, ha, Or.inr ⟨rfl, zL_up k3 (by decide) (by decide) (by decide)⟩⟩, fun z => absurd hf z⟩
      · exact absurd (kz hf) e0
def zS41 (c r : zz_S) (b : Int32) (C R : zz_S) : Prop := b = 1 ∧ ∃ a x r', a < 4096 ∧ x &&& 4095 = nI a ∧ zWk 2 x r r' ∧ zL 7 9 (zz_sp c 8 (nI a)) r' C R
theorem zL_exit {B t n D : Nat} {fr a b : Int32} {c r c' C R : zz_S} (hG : zG B t fr c r) (h : zL n D c' r C R) (hn : n < 16) (hw : zWd b) (hab : zF C → a = b) : zr (PR_exitMonitor_f a C) (MO_exit_f b R) (fun _ C' _ R' => ∃ k r', k < 4096 ∧ b &&& 4095 = nI k ∧ zL (n + 1) D (zz_sp c' 8 (a &&& 4095)) r' C' R' ∧ (zF C' → zF C ∧ a &&& 4095 = nI k ∧ zWk 2 b r r') ∧ (r' = r ∨ ∃ t, r' = zrW 0 t r)) := by
  obtain ⟨k, hk, ek⟩ := zWd_12 hw
  unfold PR_exitMonitor_f MO_exit_f ME_addressOf_f
  rw [zz_bd_s, zz_nm_e]
  have p1 := zL_sp h 8 (a &&& 4095) rfl rfl rfl
  refine zr_bd (zL_write12 p1 hn (a := zz_sg (zz_sp C 8 (a &&& 4095)) 8) (b := b) (x := 0) (y := 0) (fun z => ⟨?_, rfl⟩)) (fun _ C1 _ R1 p => ?_)
  · show a &&& 4095 = b &&& 4095
    rw [hab z]
  · obtain ⟨b', R', r', e1, e2, e3, e4, e5⟩ := zL_wake hG p.1 (Or.inl rfl) ek
    have e1' : MO_wake_f (2 : Int32) b R1 = some (b', R') := e1
    rw [e1', zz_bd_s]
    exact zr_ret ⟨k, r', hk, ek, e2, fun z => ⟨p.2 z, by rw [hab (p.2 z), ek], e3 z⟩, e5⟩
theorem zo_41 {B t : Nat} {fr gl : Int32} {gn fi nx n : Nat} {c r C R : zz_S} (h : zL 0 8 c r C R) (hs : zS fr gl gn fi nx n c r) (hG : zG B t fr c r) (h17 : zz_sg c 17 = 41) : zr (PR_coordinate_f C) (MO_act_46 (nI fi) 41 fr (nI n) R) (zP t c r (zS41 c r)) := by
  unfold PR_coordinate_f MO_act_46 MO_more_f
  simp (decide := true) only [zz_nm_e, zL_c17 h, h17, ↓reduceIte]
  rw [zz_bd_a]
  refine zr_bd (zL_pop h) (fun x C1 y R1 q => ?_)
  obtain ⟨q1, hw, q2⟩ := q
  rw [zz_bd_a]
  refine zr_bd (zL_exit hG q1 (by decide) hw (fun z => (q2 z).2)) (fun _ C2 _ R2 p => ?_)
  obtain ⟨k, r', hk, ek, p1, p2, p3⟩ := p
  rw [zz_bd_s, zz_bo_1, zz_gd_t]
  refine zr_ret ⟨fun z => ⟨rfl, k, y, r', hk, ek, (p2 z).2.2, ?_⟩, fun z => ⟨_, _, zL_up p1 (by decide) (by decide) (by decide), ⟨rfl, rfl, rfl, fun _ _ => rfl⟩, zXr_or p3⟩⟩
  rw [← (p2 z).2.1]
  exact zL_up p1 (by decide) (by decide) (by decide)
def zS42 (t : Nat) (c r : zz_S) (b : Int32) (C R : zz_S) : Prop := b = 1 ∧ ∃ a x r' y k, a < 4096 ∧ x &&& 4095 = nI a ∧ zWk 2 x r r' ∧ zWd y ∧ k < 4096 ∧ (zL 7 9 (zz_sp (zz_sp (zz_sp (zz_sp c 10 y) 9 (nI k)) 8 (nI a)) 7 0) r' C R ∨ zL 7 9 (zz_sp (zz_sp (zz_sp (zz_sp c 10 y) 9 (nI k)) 8 (nI a)) 7 1) (zz_ap (zz_ap (zz_ap r' 5 t 3) 10 t (nI k)) 11 t y) C R)
theorem zi_odd {w : Nat} (hw : w < 65536) : (zz_rem (nI w) (2 : Int32) = 1) = ¬ ((nI w &&& 1) = 0) := by
  have e2 : (2 : Int32) = nI 2 := by decide
  have e1 : (1 : Int32) = nI 1 := by decide
  rw [e2, zi_rem (by omega) (by decide), zi_1]
  apply propext
  rw [zi_z (by omega), e1, nI_eq (by omega) (by decide)]
  omega
theorem zXr_3 {t : Nat} {r r' : zz_S} {a b c : Int32} (h : zXr t r r') : zXr t r (zz_ap (zz_ap (zz_ap r' 5 t a) 10 t b) 11 t c) := by
  refine ⟨h.1, fun x i h17 hx => ?_, h.2.2⟩
  rw [zz_ag_ap, if_neg (fun z => by omega), zz_ag_ap, if_neg (fun z => by omega), zz_ag_ap, if_neg (fun z => by omega)]
  exact h.2.1 x i h17 hx
theorem zo_42 {B t : Nat} {fr gl : Int32} {gn fi nx n : Nat} {c r C R : zz_S} (h : zL 0 8 c r C R) (hs : zS fr gl gn fi nx n c r) (hG : zG B t fr c r) (h17 : zz_sg c 17 = 42) : zr (PR_coordinate_f C) (MO_act_46 (nI fi) 42 fr (nI n) R) (zP t c r (zS42 t c r)) := by
  have hG0 := hG
  obtain ⟨⟨ht, hq, h9, h3, h7⟩, hT, hst, -⟩ := hG
  unfold PR_coordinate_f MO_act_46 MO_more_f
  simp (decide := true) only [zz_nm_e, zL_c17 h, h17, ↓reduceIte]
  rw [zz_bd_a]
  refine zr_bd (zL_pop h) (fun x C1 y R1 q => ?_)
  obtain ⟨q1, hw, q2⟩ := q
  have q3 := zL_sp q1 10 x rfl rfl rfl
  rw [zz_bd_a]
  refine zr_bd (zL_pop q3) (fun x2 C2 y2 R2 p => ?_)
  obtain ⟨p1, hw2, p2⟩ := p
  obtain ⟨k, hk, ek⟩ := zWd_12 hw2
  unfold ME_addressOf_f
  rw [zz_bd_s]
  have p3 := zL_sp p1 9 (x2 &&& 4095) rfl rfl rfl
  rw [zz_bd_a]
  refine zr_bd (zL_pop p3) (fun x3 C3 y3 R3 o => ?_)
  obtain ⟨o1, hw3, o2⟩ := o
  rw [zz_bd_a]
  refine zr_bd (zL_exit hG0 o1 (by decide) hw3 (fun z => (o2 z).2)) (fun _ C4 _ R4 l => ?_)
  obtain ⟨a, r', ha, ea, l1, l2, l3⟩ := l
  unfold PR_awaitCondition_f PR_awaitCondition_24
  rw [zz_bd_a, zz_bd_a]
  have xe : zF C4 → x = y ∧ x2 &&& 4095 = nI k ∧ x3 &&& 4095 = nI a ∧ zWk 2 y3 r r' := fun z => by
    obtain ⟨z1, z2, z3⟩ := l2 z
    obtain ⟨z4, z5⟩ := o2 z1
    obtain ⟨z6, z7⟩ := p2 z4
    obtain ⟨z8, z9⟩ := q2 z6
    exact ⟨z9, by rw [z7, ek], z2, z3⟩
  refine zr_bd (zL_read12 l1 (a := zz_sg C4 9) (b := y2) (fun z => ?_)) (fun x5 C5 y5 R5 j => ?_)
  · rw [zL_c9 l1, ek]
    exact (xe z).2.1
  · obtain ⟨j1, j2, rfl, hw5, j3⟩ := j
    obtain ⟨w5, hw5', e5⟩ := hw5
    have ho : (zz_rem x5 (2 : Int32) = 1) = ¬ ((x5 &&& 1) = 0) := by rw [e5]; exact zi_odd hw5'
    by_cases od : (x5 &&& 1) = 0
    · have ho' : ¬ zz_rem x5 (2 : Int32) = 1 := by rw [ho]; exact fun z => z od
      rw [if_pos od, if_neg ho', zz_bo_1, zz_gd_t, zz_nm_e, show zz_sg (zz_sp C5 7 1) 7 = 1 from rfl, if_neg (by decide)]
      have j4 := zL_sp j1 7 1 rfl rfl rfl
      by_cases hf : zF C5
      · obtain ⟨z1, z2, z3, z4⟩ := xe (j2 hf)
        have hr3 : zz_sg r' 3 = nI t := by
          rcases l3 with rfl | ⟨t', rfl⟩
          · exact h3
          · exact h3
        simp only [zL_R0t j1 hf, if_true]
        simp only [zz_nm_e, zL_r3 j1, hr3, zi_in (show 6 ≤ 2 ^ 31 by decide) ht, zz_gd_t, nI_clamp (show t < 2 ^ 31 by omega), zz_sg_ap, zz_bd_s, zz_bo_1]
        have j5 := zL_rap (zL_rap (zL_rap j4 5 t 3 rfl rfl rfl rfl rfl rfl rfl) 10 t (y2 &&& 4095) rfl rfl rfl rfl rfl rfl rfl) 11 t y rfl rfl rfl rfl rfl rfl rfl
        refine zr_ret ⟨fun _ => ⟨rfl, a, y3, r', y, k, ha, ea, z4, hw, hk, Or.inr ?_⟩, fun z => absurd hf z⟩
        rw [z1, z2, z3, ek] at j5
        rw [ek]
        exact zL_up j5 (by decide) (by decide) (by decide)
      · simp only [zL_R0f j1 hf, if_false, zz_bd_s, zz_bo_1, zz_gd_t]
        exact zr_ret ⟨fun z => absurd z hf, fun _ => ⟨_, _, zL_up j4 (by decide) (by decide) (by decide), ⟨rfl, rfl, rfl, fun _ _ => rfl⟩, zXr_or l3⟩⟩
    · have ho' : zz_rem x5 (2 : Int32) = 1 := by rw [ho]; exact od
      rw [if_neg od, if_pos ho', zz_bo_0, zz_gd_t, zz_nm_e, show zz_sg (zz_sp C5 7 0) 7 = 0 from rfl, if_pos rfl, zz_bd_a, zz_bd_a]
      have j4 := zL_sp j1 7 0 rfl rfl rfl
      refine zr_bd (zL_write12 j4 (by decide) (a := zz_sg (zz_sp C5 7 0) 9) (b := y2) (fun z => ⟨?_, rfl⟩)) (fun _ C6 _ R6 i => ?_)
      · show zz_sg C5 9 = _
        rw [zL_c9 j1, ek]
        exact (xe (j2 z)).2.1
      · rw [zz_bd_s, zz_bd_s, zz_bo_1, zz_gd_t]
        refine zr_ret ⟨fun z => ?_, fun z => ⟨_, _, zL_up i.1 (by decide) (by decide) (by decide), ⟨rfl, rfl, rfl, fun _ _ => rfl⟩, zXr_or l3⟩⟩
        obtain ⟨z1, z2, z3, z4⟩ := xe (j2 (i.2 z))
        refine ⟨rfl, a, y3, r', y, k, ha, ea, z4, hw, hk, Or.inl ?_⟩
        have i1 := i.1
        rw [z1, z2, z3] at i1
        exact zL_up i1 (by decide) (by decide) (by decide)
def zS43 (c r : zz_S) (b : Int32) (C R : zz_S) : Prop := b = 1 ∧ ∃ a x r', a < 4096 ∧ x &&& 4095 = nI a ∧ zWk 3 x r r' ∧ zL 7 9 (zz_sp c 9 (nI a)) r' C R
theorem zo_43 {B t : Nat} {fr gl : Int32} {gn fi nx n : Nat} {c r C R : zz_S} (h : zL 0 8 c r C R) (hs : zS fr gl gn fi nx n c r) (hG : zG B t fr c r) (h17 : zz_sg c 17 = 43) : zr (PR_coordinate_f C) (MO_act_46 (nI fi) 43 fr (nI n) R) (zP t c r (zS43 c r)) := by
  unfold PR_coordinate_f MO_act_46 MO_more_f
  simp (decide := true) only [zz_nm_e, zL_c17 h, h17, ↓reduceIte]
  rw [zz_bd_a]
  refine zr_bd (zL_pop h) (fun x C1 y R1 q => ?_)
  obtain ⟨q1, hw, q2⟩ := q
  obtain ⟨a, ha, ea⟩ := zWd_12 hw
  unfold ME_addressOf_f
  rw [zz_bd_s]
  have p1 := zL_sp q1 9 (x &&& 4095) rfl rfl rfl
  obtain ⟨b', R', r', e1, e2, e3, e4, e5⟩ := zL_wake hG p1 (s := 3) (Or.inr rfl) ea
  have e1' : MO_wake_f (3 : Int32) y R1 = some (b', R') := e1
  rw [e1', zz_bd_s, zz_bd_s, zz_bo_1, zz_gd_t]
  refine zr_ret ⟨fun z => ⟨rfl, a, y, r', ha, ea, e3 z, ?_⟩, fun z => ⟨_, _, zL_up e2 (by decide) (by decide) (by decide), ⟨rfl, rfl, rfl, fun _ _ => rfl⟩, zXr_or e5⟩⟩
  rw [(q2 z).2, ea] at e2
  rw [(q2 z).2, ea]
  exact zL_up e2 (by decide) (by decide) (by decide)
def zS45 (c r : zz_S) (b : Int32) (C R : zz_S) : Prop := b = 1 ∧ zL 7 9 c (zz_sp r 10 1) C R
theorem zo_45 {B t : Nat} {fr gl : Int32} {gn fi nx n : Nat} {c r C R : zz_S} (h : zL 0 8 c r C R) (hs : zS fr gl gn fi nx n c r) (hG : zG B t fr c r) (h17 : zz_sg c 17 = 45) : zr (PR_coordinate_f C) (MO_act_46 (nI fi) 45 fr (nI n) R) (zP t c r (zS45 c r)) := by
  unfold PR_coordinate_f MO_act_46 MO_more_f
  simp (decide := true) only [zz_nm_e, zL_c17 h, h17, ↓reduceIte]
  rw [zz_bo_1, zz_gd_t, zz_bd_s, zz_bo_1, zz_gd_t]
  have k := zL_up (zL_rsp h 10 1 rfl rfl rfl) (show 0 ≤ 7 by decide) (show 8 ≤ 9 by decide) (by decide)
  exact zr_ret ⟨fun z => ⟨rfl, k⟩, fun z => ⟨_, _, zL_up k (by decide) (by decide) (by decide), ⟨rfl, rfl, rfl, fun _ _ => rfl⟩, ⟨rfl, fun _ _ _ _ => rfl, fun _ _ => rfl, rfl⟩⟩⟩
