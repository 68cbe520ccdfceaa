/-! one instruction on both sides -/
def zdis (s_14 : zz_S) : Option (Unit × zz_S) := (if (9 : Int32) ≤ (zz_sg s_14 17) then (if (17 : Int32) ≤ (zz_sg s_14 17) then (if (25 : Int32) ≤ (zz_sg s_14 17) then (if (40 : Int32) ≤ (zz_sg s_14 17) then (zz_bd (PR_coordinate_f s_14) fun _ s_16 => (PR_step_106 s_16)) else (zz_bd (PR_transfer_f s_14) fun _ s_17 => (PR_step_106 s_17))) else (zz_bd (PR_arrange_f s_14) fun _ s_18 => (PR_step_106 s_18))) else (zz_bd (PR_combine_f s_14) fun _ s_19 => (PR_step_106 s_19))) else (zz_bd (PR_move_f s_14) fun _ s_20 => (PR_step_106 s_20)))
def zact (fr : Int32) (x : Option (Int32 × zz_S)) : Option (Unit × zz_S) := zz_bd x fun r_39 s_38 => (if r_39 = 0 then (MO_instruction_164 fr s_38) else (MO_instruction_165 fr (1 : Int32) s_38))
theorem zfin {B t : Nat} {fr : Int32} {c r : zz_S} {x : Option (Unit × zz_S)} {y : Option (Int32 × zz_S)} {S : Int32 → zz_S → zz_S → Prop} (hG : zG B t fr c r) (h : zr x y (zP t c r S)) (k : ∀ b C R, zF C → S b C R → (b = 1 ∧ zr (PR_step_106 C) (MO_instruction_165 fr 1 R) (zPI B)) ∨ (b = 0 ∧ zr (PR_step_106 C) (MO_instruction_164 fr R) (zPI B))) : zr (zz_bd x fun _ s => PR_step_106 s) (zact fr y) (zPI B) := by
  unfold zact
  refine zr_bd h (fun u C b R q => ?_)
  by_cases hf : zF C
  · rcases k b C R hf (q.1 hf) with ⟨hb, z⟩ | ⟨hb, z⟩
    · rw [if_neg (by rw [hb]; decide)]; exact z
    · rw [if_pos hb]; exact z
  · by_cases hb : b = 0
    · rw [if_pos hb]
      exact zr_mono (zt_f0 hG (q.2 hf) hf) (fun _ _ _ _ z => zI0_up z (by omega))
    · rw [if_neg hb]
      exact zr_mono (zt_f0 hG (q.2 hf) hf) (fun _ _ _ _ z => zI0_up z (by omega))
theorem zx_0 {B t : Nat} {fr gl : Int32} {gn fi nx n : Nat} {c r C R : zz_S} (h : zL 0 8 c r C R) (hs : zS fr gl gn fi nx n c r) (hG : zG B t fr c r) (hn : n < 256) (h17 : zz_sg c 17 = 0) : zr (zdis C) (zact fr (MO_act_46 (nI fi) 0 fr (nI n) R)) (zPI B) := by
  unfold zdis
  rw [zL_c17 h, h17]
  simp (decide := true) only [↓reduceIte]
  exact zfin hG (zr_mono (zo_0 h hs h17) (fun _ _ _ _ q => zQ1_P q)) (fun b C R f s => Or.inl (zend_S1 hG hs.1 hs.2.2.2.2.2.2.2.2.2.1 (fun c2 m d w q => by unfold z_set; rw [zz_nm_e, zC_sg17, q, h17]; simp (decide := true) only [↓reduceIte]) f s))
theorem zx_1 {B t : Nat} {fr gl : Int32} {gn fi nx n : Nat} {c r C R : zz_S} (h : zL 0 8 c r C R) (hs : zS fr gl gn fi nx n c r) (hG : zG B t fr c r) (hn : n < 256) (h17 : zz_sg c 17 = 1) : zr (zdis C) (zact fr (MO_act_46 (nI fi) 1 fr (nI n) R)) (zPI B) := by
  unfold zdis
  rw [zL_c17 h, h17]
  simp (decide := true) only [↓reduceIte]
  exact zfin hG (zr_mono (zo_1 h hs h17) (fun _ _ _ _ q => zQ1_P q)) (fun b C R f s => Or.inl (zend_S1 hG hs.1 hs.2.2.2.2.2.2.2.2.2.1 (fun c2 m d w q => by unfold z_set; rw [zz_nm_e, zC_sg17, q, h17]; simp (decide := true) only [↓reduceIte]) f s))
theorem zx_2 {B t : Nat} {fr gl : Int32} {gn fi nx n : Nat} {c r C R : zz_S} (h : zL 0 8 c r C R) (hs : zS fr gl gn fi nx n c r) (hG : zG B t fr c r) (h17 : zz_sg c 17 = 2) : zr (zdis C) (zact fr (zz_bd (MO_push_f (nI n) R) fun _ s => some ((1 : Int32), s))) (zPI B) := by
  unfold zdis
  rw [zL_c17 h, h17]
  simp (decide := true) only [↓reduceIte]
  exact zfin hG (zr_mono (zo_2 h hs h17) (fun _ _ _ _ q => zQ1_P q)) (fun b C R f s => Or.inl (zend_S1 hG hs.1 hs.2.2.2.2.2.2.2.2.2.1 (fun c2 m d w q => by unfold z_set; rw [zz_nm_e, zC_sg17, q, h17]; simp (decide := true) only [↓reduceIte]) f s))
theorem zx_3 {B t : Nat} {fr gl : Int32} {gn fi nx n : Nat} {c r C R : zz_S} (h : zL 0 8 c r C R) (hs : zS fr gl gn fi nx n c r) (hG : zG B t fr c r) (hn : n < 256) (h17 : zz_sg c 17 = 3) : zr (zdis C) (zact fr (MO_act_46 (nI fi) 3 fr (nI n) R)) (zPI B) := by
  unfold zdis
  rw [zL_c17 h, h17]
  simp (decide := true) only [↓reduceIte]
  exact zfin hG (zr_mono (zo_3 h hs h17) (fun _ _ _ _ q => zQ1_P q)) (fun b C R f s => Or.inl (zend_S1 hG hs.1 hs.2.2.2.2.2.2.2.2.2.1 (fun c2 m d w q => by unfold z_set; rw [zz_nm_e, zC_sg17, q, h17]; simp (decide := true) only [↓reduceIte]) f s))
theorem zx_4 {B t : Nat} {fr gl : Int32} {gn fi nx n : Nat} {c r C R : zz_S} (h : zL 0 8 c r C R) (hs : zS fr gl gn fi nx n c r) (hG : zG B t fr c r) (hn : n < 256) (h17 : zz_sg c 17 = 4) : zr (zdis C) (zact fr (MO_act_46 (nI fi) 4 fr (nI n) R)) (zPI B) := by
  unfold zdis
  rw [zL_c17 h, h17]
  simp (decide := true) only [↓reduceIte]
  exact zfin hG (zr_mono (zo_4 h hs h17) (fun _ _ _ _ q => zQ1_P q)) (fun b C R f s => Or.inl (zend_S1 hG hs.1 hs.2.2.2.2.2.2.2.2.2.1 (fun c2 m d w q => by unfold z_set; rw [zz_nm_e, zC_sg17, q, h17]; simp (decide := true) only [↓reduceIte]) f s))
theorem zx_5 {B t : Nat} {fr gl : Int32} {gn fi nx n : Nat} {c r C R : zz_S} (h : zL 0 8 c r C R) (hs : zS fr gl gn fi nx n c r) (hG : zG B t fr c r) (hn : n < 256) (h17 : zz_sg c 17 = 5) : zr (zdis C) (zact fr (MO_act_46 (nI fi) 5 fr (nI n) R)) (zPI B) := by
  unfold zdis
  rw [zL_c17 h, h17]
  simp (decide := true) only [↓reduceIte]
  exact zfin hG (zr_mono (zo_5 h hs h17) (fun _ _ _ _ q => zQ1_P q)) (fun b C R f s => Or.inl (zend_S1 hG hs.1 hs.2.2.2.2.2.2.2.2.2.1 (fun c2 m d w q => by unfold z_set; rw [zz_nm_e, zC_sg17, q, h17]; simp (decide := true) only [↓reduceIte]) f s))
theorem zx_6 {B t : Nat} {fr gl : Int32} {gn fi nx n : Nat} {c r C R : zz_S} (h : zL 0 8 c r C R) (hs : zS fr gl gn fi nx n c r) (hG : zG B t fr c r) (hn : n < 256) (h17 : zz_sg c 17 = 6) : zr (zdis C) (zact fr (MO_act_46 (nI fi) 6 fr (nI n) R)) (zPI B) := by
  unfold zdis
  rw [zL_c17 h, h17]
  simp (decide := true) only [↓reduceIte]
  exact zfin hG (zr_mono (zo_6 h hs h17) (fun _ _ _ _ q => zQ1_P q)) (fun b C R f s => Or.inl (zend_S1 hG hs.1 hs.2.2.2.2.2.2.2.2.2.1 (fun c2 m d w q => by unfold z_set; rw [zz_nm_e, zC_sg17, q, h17]; simp (decide := true) only [↓reduceIte]) f s))
theorem zx_7 {B t : Nat} {fr gl : Int32} {gn fi nx n : Nat} {c r C R : zz_S} (h : zL 0 8 c r C R) (hs : zS fr gl gn fi nx n c r) (hG : zG B t fr c r) (hn : n < 256) (h17 : zz_sg c 17 = 7) : zr (zdis C) (zact fr (MO_act_46 (nI fi) 7 fr (nI n) R)) (zPI B) := by
  unfold zdis
  rw [zL_c17 h, h17]
  simp (decide := true) only [↓reduceIte]
  exact zfin hG (zr_mono (zo_7 h hs h17) (fun _ _ _ _ q => zQ1_P q)) (fun b C R f s => Or.inl (zend_S1 hG hs.1 hs.2.2.2.2.2.2.2.2.2.1 (fun c2 m d w q => by unfold z_set; rw [zz_nm_e, zC_sg17, q, h17]; simp (decide := true) only [↓reduceIte]) f s))
theorem zx_8 {B t : Nat} {fr gl : Int32} {gn fi nx n : Nat} {c r C R : zz_S} (h : zL 0 8 c r C R) (hs : zS fr gl gn fi nx n c r) (hG : zG B t fr c r) (hn : n < 256) (h17 : zz_sg c 17 = 8) : zr (zdis C) (zact fr (MO_act_46 (nI fi) 8 fr (nI n) R)) (zPI B) := by
  unfold zdis
  rw [zL_c17 h, h17]
  simp (decide := true) only [↓reduceIte]
  exact zfin hG (zr_mono (zo_8 h hs h17) (fun _ _ _ _ q => zQ1_P q)) (fun b C R f s => Or.inl (zend_S1 hG hs.1 hs.2.2.2.2.2.2.2.2.2.1 (fun c2 m d w q => by unfold z_set; rw [zz_nm_e, zC_sg17, q, h17]; simp (decide := true) only [↓reduceIte]) f s))
theorem zx_9 {B t : Nat} {fr gl : Int32} {gn fi nx n : Nat} {c r C R : zz_S} (h : zL 0 8 c r C R) (hs : zS fr gl gn fi nx n c r) (hG : zG B t fr c r) (hn : n < 256) (h17 : zz_sg c 17 = 9) : zr (zdis C) (zact fr (MO_act_46 (nI fi) 9 fr (nI n) R)) (zPI B) := by
  unfold zdis
  rw [zL_c17 h, h17]
  simp (decide := true) only [↓reduceIte]
  exact zfin hG (zr_mono (zo_9 h hs h17) (fun _ _ _ _ q => zQ1_P q)) (fun b C R f s => Or.inl (zend_S1 hG hs.1 hs.2.2.2.2.2.2.2.2.2.1 (fun c2 m d w q => by unfold z_set; rw [zz_nm_e, zC_sg17, q, h17]; simp (decide := true) only [↓reduceIte]) f s))
theorem zx_10 {B t : Nat} {fr gl : Int32} {gn fi nx n : Nat} {c r C R : zz_S} (h : zL 0 8 c r C R) (hs : zS fr gl gn fi nx n c r) (hG : zG B t fr c r) (hn : n < 256) (h17 : zz_sg c 17 = 10) : zr (zdis C) (zact fr (MO_act_46 (nI fi) 10 fr (nI n) R)) (zPI B) := by
  unfold zdis
  rw [zL_c17 h, h17]
  simp (decide := true) only [↓reduceIte]
  exact zfin hG (zr_mono (zo_10 h hs h17) (fun _ _ _ _ q => zQ1_P q)) (fun b C R f s => Or.inl (zend_S1 hG hs.1 hs.2.2.2.2.2.2.2.2.2.1 (fun c2 m d w q => by unfold z_set; rw [zz_nm_e, zC_sg17, q, h17]; simp (decide := true) only [↓reduceIte]) f s))
theorem zx_11 {B t : Nat} {fr gl : Int32} {gn fi nx n : Nat} {c r C R : zz_S} (h : zL 0 8 c r C R) (hs : zS fr gl gn fi nx n c r) (hG : zG B t fr c r) (hn : n < 256) (h17 : zz_sg c 17 = 11) : zr (zdis C) (zact fr (MO_act_46 (nI fi) 11 fr (nI n) R)) (zPI B) := by
  unfold zdis
  rw [zL_c17 h, h17]
  simp (decide := true) only [↓reduceIte]
  exact zfin hG (zr_mono (zo_11 h hs h17) (fun _ _ _ _ q => zQ1_P q)) (fun b C R f s => Or.inl (zend_S1 hG hs.1 hs.2.2.2.2.2.2.2.2.2.1 (fun c2 m d w q => by unfold z_set; rw [zz_nm_e, zC_sg17, q, h17]; simp (decide := true) only [↓reduceIte]) f s))
theorem zx_12 {B t : Nat} {fr gl : Int32} {gn fi nx n : Nat} {c r C R : zz_S} (h : zL 0 8 c r C R) (hs : zS fr gl gn fi nx n c r) (hG : zG B t fr c r) (hn : n < 256) (h17 : zz_sg c 17 = 12) : zr (zdis C) (zact fr (MO_act_46 (nI fi) 12 fr (nI n) R)) (zPI B) := by
  unfold zdis
  rw [zL_c17 h, h17]
  simp (decide := true) only [↓reduceIte]
  exact zfin hG (zr_mono (zo_12 h hs h17) (fun _ _ _ _ q => zQ1_P q)) (fun b C R f s => Or.inl (zend_S1 hG hs.1 hs.2.2.2.2.2.2.2.2.2.1 (fun c2 m d w q => by unfold z_set; rw [zz_nm_e, zC_sg17, q, h17]; simp (decide := true) only [↓reduceIte]) f s))
theorem zx_13 {B t : Nat} {fr gl : Int32} {gn fi nx n : Nat} {c r C R : zz_S} (h : zL 0 8 c r C R) (hs : zS fr gl gn fi nx n c r) (hG : zG B t fr c r) (hn : n < 256) (h17 : zz_sg c 17 = 13) : zr (zdis C) (zact fr (MO_act_46 (nI fi) 13 fr (nI n) R)) (zPI B) := by
  unfold zdis
  rw [zL_c17 h, h17]
  simp (decide := true) only [↓reduceIte]
  exact zfin hG (zr_mono (zo_13 h hs h17) (fun _ _ _ _ q => zQ1_P q)) (fun b C R f s => Or.inl (zend_S1 hG hs.1 hs.2.2.2.2.2.2.2.2.2.1 (fun c2 m d w q => by unfold z_set; rw [zz_nm_e, zC_sg17, q, h17]; simp (decide := true) only [↓reduceIte]) f s))
theorem zx_14 {B t : Nat} {fr gl : Int32} {gn fi nx n : Nat} {c r C R : zz_S} (h : zL 0 8 c r C R) (hs : zS fr gl gn fi nx n c r) (hG : zG B t fr c r) (hn : n < 256) (h17 : zz_sg c 17 = 14) : zr (zdis C) (zact fr (MO_act_46 (nI fi) 14 fr (nI n) R)) (zPI B) := by
  unfold zdis
  rw [zL_c17 h, h17]
  simp (decide := true) only [↓reduceIte]
  exact zfin hG (zr_mono (zo_14 h hs h17) (fun _ _ _ _ q => zQ1_P q)) (fun b C R f s => Or.inl (zend_S1 hG hs.1 hs.2.2.2.2.2.2.2.2.2.1 (fun c2 m d w q => by unfold z_set; rw [zz_nm_e, zC_sg17, q, h17]; simp (decide := true) only [↓reduceIte]) f s))
theorem zx_15 {B t : Nat} {fr gl : Int32} {gn fi nx n : Nat} {c r C R : zz_S} (h : zL 0 8 c r C R) (hs : zS fr gl gn fi nx n c r) (hG : zG B t fr c r) (hn : n < 256) (h17 : zz_sg c 17 = 15) : zr (zdis C) (zact fr (MO_act_46 (nI fi) 15 fr (nI n) R)) (zPI B) := by
  unfold zdis
  rw [zL_c17 h, h17]
  simp (decide := true) only [↓reduceIte]
  exact zfin hG (zr_mono (zo_15 h hs h17) (fun _ _ _ _ q => zQ1_P q)) (fun b C R f s => Or.inl (zend_S1 hG hs.1 hs.2.2.2.2.2.2.2.2.2.1 (fun c2 m d w q => by unfold z_set; rw [zz_nm_e, zC_sg17, q, h17]; simp (decide := true) only [↓reduceIte]) f s))
theorem zx_16 {B t : Nat} {fr gl : Int32} {gn fi nx n : Nat} {c r C R : zz_S} (h : zL 0 8 c r C R) (hs : zS fr gl gn fi nx n c r) (hG : zG B t fr c r) (hn : n < 256) (h17 : zz_sg c 17 = 16) : zr (zdis C) (zact fr (MO_act_46 (nI fi) 16 fr (nI n) R)) (zPI B) := by
  unfold zdis
  rw [zL_c17 h, h17]
  simp (decide := true) only [↓reduceIte]
  exact zfin hG (zr_mono (zo_16 h hs h17) (fun _ _ _ _ q => zQ1_P q)) (fun b C R f s => Or.inl (zend_S1 hG hs.1 hs.2.2.2.2.2.2.2.2.2.1 (fun c2 m d w q => by unfold z_set; rw [zz_nm_e, zC_sg17, q, h17]; simp (decide := true) only [↓reduceIte]) f s))
theorem zx_17 {B t : Nat} {fr gl : Int32} {gn fi nx n : Nat} {c r C R : zz_S} (h : zL 0 8 c r C R) (hs : zS fr gl gn fi nx n c r) (hG : zG B t fr c r) (hn : n < 256) (h17 : zz_sg c 17 = 17) : zr (zdis C) (zact fr (MO_act_46 (nI fi) 17 fr (nI n) R)) (zPI B) := by
  unfold zdis
  rw [zL_c17 h, h17]
  simp (decide := true) only [↓reduceIte]
  exact zfin hG (zr_mono (zo_17 h hs h17) (fun _ _ _ _ q => zQ1_P q)) (fun b C R f s => Or.inl (zend_S1 hG hs.1 hs.2.2.2.2.2.2.2.2.2.1 (fun c2 m d w q => by unfold z_set; rw [zz_nm_e, zC_sg17, q, h17]; simp (decide := true) only [↓reduceIte]) f s))
theorem zx_18 {B t : Nat} {fr gl : Int32} {gn fi nx n : Nat} {c r C R : zz_S} (h : zL 0 8 c r C R) (hs : zS fr gl gn fi nx n c r) (hG : zG B t fr c r) (hn : n < 256) (h17 : zz_sg c 17 = 18) : zr (zdis C) (zact fr (MO_act_46 (nI fi) 18 fr (nI n) R)) (zPI B) := by
  unfold zdis
  rw [zL_c17 h, h17]
  simp (decide := true) only [↓reduceIte]
  exact zfin hG (zr_mono (zo_18 h hs h17) (fun _ _ _ _ q => zQ1_P q)) (fun b C R f s => Or.inl (zend_S1 hG hs.1 hs.2.2.2.2.2.2.2.2.2.1 (fun c2 m d w q => by unfold z_set; rw [zz_nm_e, zC_sg17, q, h17]; simp (decide := true) only [↓reduceIte]) f s))
theorem zx_19 {B t : Nat} {fr gl : Int32} {gn fi nx n : Nat} {c r C R : zz_S} (h : zL 0 8 c r C R) (hs : zS fr gl gn fi nx n c r) (hG : zG B t fr c r) (hn : n < 256) (h17 : zz_sg c 17 = 19) : zr (zdis C) (zact fr (MO_act_46 (nI fi) 19 fr (nI n) R)) (zPI B) := by
  unfold zdis
  rw [zL_c17 h, h17]
  simp (decide := true) only [↓reduceIte]
  exact zfin hG (zr_mono (zo_19 h hs h17) (fun _ _ _ _ q => zQ1_P q)) (fun b C R f s => Or.inl (zend_S1 hG hs.1 hs.2.2.2.2.2.2.2.2.2.1 (fun c2 m d w q => by unfold z_set; rw [zz_nm_e, zC_sg17, q, h17]; simp (decide := true) only [↓reduceIte]) f s))
theorem zx_20 {B t : Nat} {fr gl : Int32} {gn fi nx n : Nat} {c r C R : zz_S} (h : zL 0 8 c r C R) (hs : zS fr gl gn fi nx n c r) (hG : zG B t fr c r) (hn : n < 256) (h17 : zz_sg c 17 = 20) : zr (zdis C) (zact fr (MO_act_46 (nI fi) 20 fr (nI n) R)) (zPI B) := by
  unfold zdis
  rw [zL_c17 h, h17]
  simp (decide := true) only [↓reduceIte]
  exact zfin hG (zr_mono (zo_20 h hs h17) (fun _ _ _ _ q => zQ1_P q)) (fun b C R f s => Or.inl (zend_S1 hG hs.1 hs.2.2.2.2.2.2.2.2.2.1 (fun c2 m d w q => by unfold z_set; rw [zz_nm_e, zC_sg17, q, h17]; simp (decide := true) only [↓reduceIte]) f s))
theorem zx_21 {B t : Nat} {fr gl : Int32} {gn fi nx n : Nat} {c r C R : zz_S} (h : zL 0 8 c r C R) (hs : zS fr gl gn fi nx n c r) (hG : zG B t fr c r) (hn : n < 256) (h17 : zz_sg c 17 = 21) : zr (zdis C) (zact fr (MO_act_46 (nI fi) 21 fr (nI n) R)) (zPI B) := by
  unfold zdis
  rw [zL_c17 h, h17]
  simp (decide := true) only [↓reduceIte]
  exact zfin hG (zr_mono (zo_21 h hs h17) (fun _ _ _ _ q => zQ1_P q)) (fun b C R f s => Or.inl (zend_S1 hG hs.1 hs.2.2.2.2.2.2.2.2.2.1 (fun c2 m d w q => by unfold z_set; rw [zz_nm_e, zC_sg17, q, h17]; simp (decide := true) only [↓reduceIte]) f s))
theorem zx_22 {B t : Nat} {fr gl : Int32} {gn fi nx n : Nat} {c r C R : zz_S} (h : zL 0 8 c r C R) (hs : zS fr gl gn fi nx n c r) (hG : zG B t fr c r) (hn : n < 256) (h17 : zz_sg c 17 = 22) : zr (zdis C) (zact fr (MO_act_46 (nI fi) 22 fr (nI n) R)) (zPI B) := by
  unfold zdis
  rw [zL_c17 h, h17]
  simp (decide := true) only [↓reduceIte]
  exact zfin hG (zr_mono (zo_22 h hs h17) (fun _ _ _ _ q => zQ1_P q)) (fun b C R f s => Or.inl (zend_S1 hG hs.1 hs.2.2.2.2.2.2.2.2.2.1 (fun c2 m d w q => by unfold z_set; rw [zz_nm_e, zC_sg17, q, h17]; simp (decide := true) only [↓reduceIte]) f s))
theorem zx_23 {B t : Nat} {fr gl : Int32} {gn fi nx n : Nat} {c r C R : zz_S} (h : zL 0 8 c r C R) (hs : zS fr gl gn fi nx n c r) (hG : zG B t fr c r) (hn : n < 256) (h17 : zz_sg c 17 = 23) : zr (zdis C) (zact fr (MO_act_46 (nI fi) 23 fr (nI n) R)) (zPI B) := by
  unfold zdis
  rw [zL_c17 h, h17]
  simp (decide := true) only [↓reduceIte]
  exact zfin hG (zr_mono (zo_23 h hs hn h17) (fun _ _ _ _ q => zQ1_P q)) (fun b C R f s => Or.inl (zend_S1 hG hs.1 hs.2.2.2.2.2.2.2.2.2.1 (fun c2 m d w q => by unfold z_set; rw [zz_nm_e, zC_sg17, q, h17]; simp (decide := true) only [↓reduceIte]) f s))
theorem zx_24 {B t : Nat} {fr gl : Int32} {gn fi nx n : Nat} {c r C R : zz_S} (h : zL 0 8 c r C R) (hs : zS fr gl gn fi nx n c r) (hG : zG B t fr c r) (hn : n < 256) (h17 : zz_sg c 17 = 24) : zr (zdis C) (zact fr (MO_act_46 (nI fi) 24 fr (nI n) R)) (zPI B) := by
  unfold zdis
  rw [zL_c17 h, h17]
  simp (decide := true) only [↓reduceIte]
  exact zfin hG (zr_mono (zo_24 h hs hn h17) (fun _ _ _ _ q => zQ1_P q)) (fun b C R f s => Or.inl (zend_S1 hG hs.1 hs.2.2.2.2.2.2.2.2.2.1 (fun c2 m d w q => by unfold z_set; rw [zz_nm_e, zC_sg17, q, h17]; simp (decide := true) only [↓reduceIte]) f s))
theorem zx_25 {B t : Nat} {fr gl : Int32} {gn fi nx n : Nat} {c r C R : zz_S} (h : zL 0 8 c r C R) (hs : zS fr gl gn fi nx n c r) (hG : zG B t fr c r) (hn : n < 256) (h17 : zz_sg c 17 = 25) : zr (zdis C) (zact fr (MO_act_46 (nI fi) 25 fr (nI n) R)) (zPI B) := by
  unfold zdis
  rw [zL_c17 h, h17]
  simp (decide := true) only [↓reduceIte]
  exact zfin hG (zo_25 h hs hG.1 h17) (fun b C R f s => Or.inr (zend_S2 hG (fun c2 m d w q => by unfold z_set; rw [zz_nm_e, zC_sg17, q, h17]; simp (decide := true) only [↓reduceIte]) f s))
theorem zx_26 {B t : Nat} {fr gl : Int32} {gn fi nx n : Nat} {c r C R : zz_S} (h : zL 0 8 c r C R) (hs : zS fr gl gn fi nx n c r) (hG : zG B t fr c r) (hn : n < 256) (h17 : zz_sg c 17 = 26) : zr (zdis C) (zact fr (MO_act_46 (nI fi) 26 fr (nI n) R)) (zPI B) := by
  unfold zdis
  rw [zL_c17 h, h17]
  simp (decide := true) only [↓reduceIte]
  exact zfin hG (zo_26 h hs hG.1 h17) (fun b C R f s => Or.inr (zend_S2 hG (fun c2 m d w q => by unfold z_set; rw [zz_nm_e, zC_sg17, q, h17]; simp (decide := true) only [↓reduceIte]) f s))
theorem zx_27 {B t : Nat} {fr gl : Int32} {gn fi nx n : Nat} {c r C R : zz_S} (h : zL 0 8 c r C R) (hs : zS fr gl gn fi nx n c r) (hG : zG B t fr c r) (hn : n < 256) (h17 : zz_sg c 17 = 27) : zr (zdis C) (zact fr (MO_act_46 (nI fi) 27 fr (nI n) R)) (zPI B) := by
  unfold zdis
  rw [zL_c17 h, h17]
  simp (decide := true) only [↓reduceIte]
  exact zfin hG (zo_27 h hs hG.1 h17) (fun b C R f s => Or.inr (zend_S27 hG hs.1 hs.2.2.2.2.2.2.2.2.2.1 h17 f s))
theorem zx_28 {B t : Nat} {fr gl : Int32} {gn fi nx n : Nat} {c r C R : zz_S} (h : zL 0 8 c r C R) (hs : zS fr gl gn fi nx n c r) (hG : zG B t fr c r) (hn : n < 256) (h17 : zz_sg c 17 = 28) : zr (zdis C) (zact fr (MO_act_46 (nI fi) 28 fr (nI n) R)) (zPI B) := by
  unfold zdis
  rw [zL_c17 h, h17]
  simp (decide := true) only [↓reduceIte]
  exact zfin hG (zo_28 h hs hG.1 h17) (fun b C R f s => Or.inr (zend_S2 hG (fun c2 m d w q => by unfold z_set; rw [zz_nm_e, zC_sg17, q, h17]; simp (decide := true) only [↓reduceIte]) f s))
theorem zx_29 {B t : Nat} {fr gl : Int32} {gn fi nx n : Nat} {c r C R : zz_S} (h : zL 0 8 c r C R) (hs : zS fr gl gn fi nx n c r) (hG : zG B t fr c r) (hn : n < 256) (h17 : zz_sg c 17 = 29) : zr (zdis C) (zact fr (MO_act_46 (nI fi) 29 fr (nI n) R)) (zPI B) := by
  unfold zdis
  rw [zL_c17 h, h17]
  simp (decide := true) only [↓reduceIte]
  exact zfin hG (zr_mono (zo_29 h hs h17) (fun _ _ _ _ q => zQ1_P q)) (fun b C R f s => Or.inl (zend_S1 hG hs.1 hs.2.2.2.2.2.2.2.2.2.1 (fun c2 m d w q => by unfold z_set; rw [zz_nm_e, zC_sg17, q, h17]; simp (decide := true) only [↓reduceIte]) f s))
theorem zx_30 {B t : Nat} {fr gl : Int32} {gn fi nx n : Nat} {c r C R : zz_S} (h : zL 0 8 c r C R) (hs : zS fr gl gn fi nx n c r) (hG : zG B t fr c r) (hn : n < 256) (h17 : zz_sg c 17 = 30) : zr (zdis C) (zact fr (MO_act_46 (nI fi) 30 fr (nI n) R)) (zPI B) := by
  unfold zdis
  rw [zL_c17 h, h17]
  simp (decide := true) only [↓reduceIte]
  exact zfin hG (zr_mono (zo_30 h hs h17) (fun _ _ _ _ q => zQ1_P q)) (fun b C R f s => Or.inl (zend_S1 hG hs.1 hs.2.2.2.2.2.2.2.2.2.1 (fun c2 m d w q => by unfold z_set; rw [zz_nm_e, zC_sg17, q, h17]; simp (decide := true) only [↓reduceIte]) f s))
theorem zx_31 {B t : Nat} {fr gl : Int32} {gn fi nx n : Nat} {c r C R : zz_S} (h : zL 0 8 c r C R) (hs : zS fr gl gn fi nx n c r) (hG : zG B t fr c r) (hn : n < 256) (h17 : zz_sg c 17 = 31) : zr (zdis C) (zact fr (MO_act_46 (nI fi) 31 fr (nI n) R)) (zPI B) := by
  unfold zdis
  rw [zL_c17 h, h17]
  simp (decide := true) only [↓reduceIte]
  exact zfin hG (zo_31 h hs hG h17) (fun b C R f s => Or.inl (zend_S31 hG hs.1 hs.2.2.2.2.2.2.2.2.2.1 (zS_nx hs) h17 f s))
theorem zx_40 {B t : Nat} {fr gl : Int32} {gn fi nx n : Nat} {c r C R : zz_S} (h : zL 0 8 c r C R) (hs : zS fr gl gn fi nx n c r) (hG : zG B t fr c r) (hn : n < 256) (h17 : zz_sg c 17 = 40) : zr (zdis C) (zact fr (MO_act_46 (nI fi) 40 fr (nI n) R)) (zPI B) := by
  unfold zdis
  rw [zL_c17 h, h17]
  simp (decide := true) only [↓reduceIte]
  exact zfin hG (zo_40 h hs hG h17) (fun b C R f s => zend_S40 hG hs.1 hs.2.2.2.2.2.2.2.2.2.1 (zS_nx hs) (fun c2 m d w q => by unfold z_set; rw [zz_nm_e, zC_sg17, q, h17]; simp (decide := true) only [↓reduceIte]) f s)
theorem zx_41 {B t : Nat} {fr gl : Int32} {gn fi nx n : Nat} {c r C R : zz_S} (h : zL 0 8 c r C R) (hs : zS fr gl gn fi nx n c r) (hG : zG B t fr c r) (hn : n < 256) (h17 : zz_sg c 17 = 41) : zr (zdis C) (zact fr (MO_act_46 (nI fi) 41 fr (nI n) R)) (zPI B) := by
  unfold zdis
  rw [zL_c17 h, h17]
  simp (decide := true) only [↓reduceIte]
  exact zfin hG (zo_41 h hs hG h17) (fun b C R f s => Or.inl (zend_S41 hG hs.1 hs.2.2.2.2.2.2.2.2.2.1 (zS_nx hs) h17 f s))
theorem zx_42 {B t : Nat} {fr gl : Int32} {gn fi nx n : Nat} {c r C R : zz_S} (h : zL 0 8 c r C R) (hs : zS fr gl gn fi nx n c r) (hG : zG B t fr c r) (hn : n < 256) (h17 : zz_sg c 17 = 42) : zr (zdis C) (zact fr (MO_act_46 (nI fi) 42 fr (nI n) R)) (zPI B) := by
  unfold zdis
  rw [zL_c17 h, h17]
  simp (decide := true) only [↓reduceIte]
  exact zfin hG (zo_42 h hs hG h17) (fun b C R f s => Or.inl (zend_S42 hG hs.1 hs.2.2.2.2.2.2.2.2.2.1 (zS_nx hs) h17 f s))
theorem zx_43 {B t : Nat} {fr gl : Int32} {gn fi nx n : Nat} {c r C R : zz_S} (h : zL 0 8 c r C R) (hs : zS fr gl gn fi nx n c r) (hG : zG B t fr c r) (hn : n < 256) (h17 : zz_sg c 17 = 43) : zr (zdis C) (zact fr (MO_act_46 (nI fi) 43 fr (nI n) R)) (zPI B) := by
  unfold zdis
  rw [zL_c17 h, h17]
  simp (decide := true) only [↓reduceIte]
  exact zfin hG (zo_43 h hs hG h17) (fun b C R f s => Or.inl (zend_S43 hG hs.1 hs.2.2.2.2.2.2.2.2.2.1 (zS_nx hs) h17 f s))
theorem zx_44 {B t : Nat} {fr gl : Int32} {gn fi nx n : Nat} {c r C R : zz_S} (h : zL 0 8 c r C R) (hs : zS fr gl gn fi nx n c r) (hG : zG B t fr c r) (hn : n < 256) (h17 : zz_sg c 17 = 44) : zr (zdis C) (zact fr (MO_act_46 (nI fi) 44 fr (nI n) R)) (zPI B) := by
  unfold zdis
  rw [zL_c17 h, h17]
  simp (decide := true) only [↓reduceIte]
  exact zfin hG (zo_44 h hs hG h17) (fun b C R f s => Or.inl (zend_S44 hG hs.1 hs.2.2.2.2.2.2.2.2.2.1 (zS_nx hs) h17 f s))
theorem zx_45 {B t : Nat} {fr gl : Int32} {gn fi nx n : Nat} {c r C R : zz_S} (h : zL 0 8 c r C R) (hs : zS fr gl gn fi nx n c r) (hG : zG B t fr c r) (hn : n < 256) (h17 : zz_sg c 17 = 45) : zr (zdis C) (zact fr (MO_act_46 (nI fi) 45 fr (nI n) R)) (zPI B) := by
  unfold zdis
  rw [zL_c17 h, h17]
  simp (decide := true) only [↓reduceIte]
  exact zfin hG (zo_45 h hs hG h17) (fun b C R f s => Or.inl (zend_S45 hG hs.1 hs.2.2.2.2.2.2.2.2.2.1 (zS_nx hs) h17 f s))
theorem zq_0 {B t k : Nat} {fr gl : Int32} {gn fi nx n : Nat} {c r C R : zz_S} (hk : k ∈ [0, 9, 10, 11, 12, 13, 14, 15, 16, 17, 18, 19, 27, 28, 30, 31, 40, 41, 42, 43, 44, 45]) (h : zL 0 8 c r C R) (hs : zS fr gl gn fi nx n c r) (hG : zG B t fr c r) (hn : n < 256) (h17 : zz_sg c 17 = nI k) : zr (zdis C) (zact fr (MO_act_46 (nI fi) (nI k) fr (nI n) R)) (zPI B) := by
  simp only [List.mem_cons, List.not_mem_nil, or_false] at hk
  rcases hk with rfl | rfl | rfl | rfl | rfl | rfl | rfl | rfl | rfl | rfl | rfl | rfl | rfl | rfl | rfl | rfl | rfl | rfl | rfl | rfl | rfl | rfl
  · exact zx_0 h hs hG hn h17
  · exact zx_9 h hs hG hn h17
  · exact zx_10 h hs hG hn h17
  · exact zx_11 h hs hG hn h17
  · exact zx_12 h hs hG hn h17
  · exact zx_13 h hs hG hn h17
  · exact zx_14 h hs hG hn h17
  · exact zx_15 h hs hG hn h17
  · exact zx_16 h hs hG hn h17
  · exact zx_17 h hs hG hn h17
  · exact zx_18 h hs hG hn h17
  · exact zx_19 h hs hG hn h17
  · exact zx_27 h hs hG hn h17
  · exact zx_28 h hs hG hn h17
  · exact zx_30 h hs hG hn h17
  · exact zx_31 h hs hG hn h17
  · exact zx_40 h hs hG hn h17
  · exact zx_41 h hs hG hn h17
  · exact zx_42 h hs hG hn h17
  · exact zx_43 h hs hG hn h17
  · exact zx_44 h hs hG hn h17
  · exact zx_45 h hs hG hn h17
theorem zq_1 {B t k : Nat} {fr gl : Int32} {gn fi nx n : Nat} {c r C R : zz_S} (hk : k ∈ [1, 3, 4, 5, 6, 7, 8, 20, 21, 22, 23, 24, 25, 26, 29]) (h : zL 0 8 c r C R) (hs : zS fr gl gn fi nx n c r) (hG : zG B t fr c r) (hn : n < 256) (h17 : zz_sg c 17 = nI k) : zr (zdis C) (zact fr (MO_act_46 (nI fi) (nI k) fr (nI n) R)) (zPI B) := by
  simp only [List.mem_cons, List.not_mem_nil, or_false] at hk
  rcases hk with rfl | rfl | rfl | rfl | rfl | rfl | rfl | rfl | rfl | rfl | rfl | rfl | rfl | rfl | rfl
  · exact zx_1 h hs hG hn h17
  · exact zx_3 h hs hG hn h17
  · exact zx_4 h hs hG hn h17
  · exact zx_5 h hs hG hn h17
  · exact zx_6 h hs hG hn h17
  · exact zx_7 h hs hG hn h17
  · exact zx_8 h hs hG hn h17
  · exact zx_20 h hs hG hn h17
  · exact zx_21 h hs hG hn h17
  · exact zx_22 h hs hG hn h17
  · exact zx_23 h hs hG hn h17
  · exact zx_24 h hs hG hn h17
  · exact zx_25 h hs hG hn h17
  · exact zx_26 h hs hG hn h17
  · exact zx_29 h hs hG hn h17
theorem zj_1 {t k : Nat} {fi fr : Int32} {r : zz_S} {m : zM} {e n : Nat} {v : Nat → Int32} (hkk : k ∈ [1, 3, 4, 5, 6, 7, 8, 20, 21, 22, 23, 24, 25, 26, 29]) (ht : t < 6) (h3 : zz_sg r 3 = nI t) (hm : zm_ok m) (hk : zmk m + 5 ≤ 40) (hf : ¬ zmf m = 0) (hn : n < 256) (hg : ∃ g, g < 16 ∧ zz_sg r 8 = nI g) : ∃ b u, MO_act_46 fi (nI k) fr (nI n) (zR r m e v) = some (b, zR (zz_sp r 5 u) m e v) := by
  simp only [List.mem_cons, List.not_mem_nil, or_false] at hkk
  rcases hkk with rfl | rfl | rfl | rfl | rfl | rfl | rfl | rfl | rfl | rfl | rfl | rfl | rfl | rfl | rfl
  · exact zJ_1 ht h3 hm hk hf hn hg
  · exact zJ_3 ht h3 hm hk hf hn hg
  · exact zJ_4 ht h3 hm hk hf hn hg
  · exact zJ_5 ht h3 hm hk hf hn hg
  · exact zJ_6 ht h3 hm hk hf hn hg
  · exact zJ_7 ht h3 hm hk hf hn hg
  · exact zJ_8 ht h3 hm hk hf hn hg
  · exact zJ_20 ht h3 hm hk hf hn hg
  · exact zJ_21 ht h3 hm hk hf hn hg
  · exact zJ_22 ht h3 hm hk hf hn hg
  · exact zJ_23 ht h3 hm hk hf hn hg
  · exact zJ_24 ht h3 hm hk hf hn hg
  · exact zJ_25 ht h3 hm hk hf hn hg
  · exact zJ_26 ht h3 hm hk hf hn hg
  · exact zJ_29 ht h3 hm hk hf hn hg
theorem za_0 {t k : Nat} {fi fr : Int32} {R : zz_S} (hk : k ∈ [0, 9, 10, 11, 12, 13, 14, 15, 16, 17, 18, 19, 27, 28, 30, 31, 40, 41, 42, 43, 44, 45]) (ht : t < 6) (h3 : zz_sg R 3 = nI t) (h7 : zz_ag R 7 t = fr) : MO_act_f fi (nI k) R = MO_act_46 fi (nI k) fr 0 R := by
  unfold MO_act_f MO_act_20 MO_act_32
  rw [zz_nm_e, h3, zi_in (by decide) ht, zz_gd_t, nI_clamp (by omega), zz_nm_e, h7]
  simp only [List.mem_cons, List.not_mem_nil, or_false] at hk
  rcases hk with rfl | rfl | rfl | rfl | rfl | rfl | rfl | rfl | rfl | rfl | rfl | rfl | rfl | rfl | rfl | rfl | rfl | rfl | rfl | rfl | rfl | rfl
  all_goals first | rfl | (simp (decide := true) only [↓reduceIte])
theorem za_1 {t k : Nat} {fi fr : Int32} {R : zz_S} (hk : k ∈ [1, 3, 4, 5, 6, 7, 8, 20, 21, 22, 23, 24, 25, 26, 29, 2]) (ht : t < 6) (h3 : zz_sg R 3 = nI t) (h7 : zz_ag R 7 t = fr) : MO_act_f fi (nI k) R = MO_act_38 fi (nI k) fr R := by
  unfold MO_act_f MO_act_20 MO_act_32
  rw [zz_nm_e, h3, zi_in (by decide) ht, zz_gd_t, nI_clamp (by omega), zz_nm_e, h7]
  simp only [List.mem_cons, List.not_mem_nil, or_false] at hk
  rcases hk with rfl | rfl | rfl | rfl | rfl | rfl | rfl | rfl | rfl | rfl | rfl | rfl | rfl | rfl | rfl | rfl
  all_goals first | rfl | (simp (decide := true) only [↓reduceIte])
theorem zn_e {k j : Nat} (hk : k < 256) (hj : j < 256) (h : k ≠ j) : ¬ nI k = nI j := fun z => h ((nI_eq (by omega) (by omega)).mp z)
theorem za_bad {t k : Nat} {fi fr : Int32} {R : zz_S} (hk : k < 256) (h31 : 31 < k) (hb : k < 40 ∨ 45 < k) (ht : t < 6) (h3 : zz_sg R 3 = nI t) (h7 : zz_ag R 7 t = fr) : MO_act_f fi (nI k) R = zz_bd (zz_bd (MO_wrong_f 9 R) fun _ s_2 => some ((1 : Int32), s_2)) (fun r s => zz_gd (zz_bo r) (some (r, s))) := by
  have f0 : ¬ nI k = (0 : Int32) := zn_e hk (j := 0) (by decide) (by omega)
  have f1 : ¬ nI k = (1 : Int32) := zn_e hk (j := 1) (by decide) (by omega)
  have f2 : ¬ nI k = (2 : Int32) := zn_e hk (j := 2) (by decide) (by omega)
  have f3 : ¬ nI k = (3 : Int32) := zn_e hk (j := 3) (by decide) (by omega)
  have f4 : ¬ nI k = (4 : Int32) := zn_e hk (j := 4) (by decide) (by omega)
  have f5 : ¬ nI k = (5 : Int32) := zn_e hk (j := 5) (by decide) (by omega)
  have f6 : ¬ nI k = (6 : Int32) := zn_e hk (j := 6) (by decide) (by omega)
  have f7 : ¬ nI k = (7 : Int32) := zn_e hk (j := 7) (by decide) (by omega)
  have f8 : ¬ nI k = (8 : Int32) := zn_e hk (j := 8) (by decide) (by omega)
  have f9 : ¬ nI k = (9 : Int32) := zn_e hk (j := 9) (by decide) (by omega)
  have f10 : ¬ nI k = (10 : Int32) := zn_e hk (j := 10) (by decide) (by omega)
  have f11 : ¬ nI k = (11 : Int32) := zn_e hk (j := 11) (by decide) (by omega)
  have f12 : ¬ nI k = (12 : Int32) := zn_e hk (j := 12) (by decide) (by omega)
  have f13 : ¬ nI k = (13 : Int32) := zn_e hk (j := 13) (by decide) (by omega)
  have f14 : ¬ nI k = (14 : Int32) := zn_e hk (j := 14) (by decide) (by omega)
  have f15 : ¬ nI k = (15 : Int32) := zn_e hk (j := 15) (by decide) (by omega)
  have f16 : ¬ nI k = (16 : Int32) := zn_e hk (j := 16) (by decide) (by omega)
  have f17 : ¬ nI k = (17 : Int32) := zn_e hk (j := 17) (by decide) (by omega)
  have f18 : ¬ nI k = (18 : Int32) := zn_e hk (j := 18) (by decide) (by omega)
  have f19 : ¬ nI k = (19 : Int32) := zn_e hk (j := 19) (by decide) (by omega)
  have f20 : ¬ nI k = (20 : Int32) := zn_e hk (j := 20) (by decide) (by omega)
  have f21 : ¬ nI k = (21 : Int32) := zn_e hk (j := 21) (by decide) (by omega)
  have f22 : ¬ nI k = (22 : Int32) := zn_e hk (j := 22) (by decide) (by omega)
  have f23 : ¬ nI k = (23 : Int32) := zn_e hk (j := 23) (by decide) (by omega)
  have f24 : ¬ nI k = (24 : Int32) := zn_e hk (j := 24) (by decide) (by omega)
  have f25 : ¬ nI k = (25 : Int32) := zn_e hk (j := 25) (by decide) (by omega)
  have f26 : ¬ nI k = (26 : Int32) := zn_e hk (j := 26) (by decide) (by omega)
  have f27 : ¬ nI k = (27 : Int32) := zn_e hk (j := 27) (by decide) (by omega)
  have f28 : ¬ nI k = (28 : Int32) := zn_e hk (j := 28) (by decide) (by omega)
  have f29 : ¬ nI k = (29 : Int32) := zn_e hk (j := 29) (by decide) (by omega)
  have f30 : ¬ nI k = (30 : Int32) := zn_e hk (j := 30) (by decide) (by omega)
  have f31 : ¬ nI k = (31 : Int32) := zn_e hk (j := 31) (by decide) (by omega)
  have f40 : ¬ nI k = (40 : Int32) := zn_e hk (j := 40) (by decide) (by omega)
  have f41 : ¬ nI k = (41 : Int32) := zn_e hk (j := 41) (by decide) (by omega)
  have f42 : ¬ nI k = (42 : Int32) := zn_e hk (j := 42) (by decide) (by omega)
  have f43 : ¬ nI k = (43 : Int32) := zn_e hk (j := 43) (by decide) (by omega)
  have f44 : ¬ nI k = (44 : Int32) := zn_e hk (j := 44) (by decide) (by omega)
  have f45 : ¬ nI k = (45 : Int32) := zn_e hk (j := 45) (by decide) (by omega)
  have g0 : ¬ nI k ≤ (0 : Int32) := nI_ge (a := 0) (by omega) (by omega)
  have g9 : ¬ nI k < (9 : Int32) := nI_nlt (b := 9) (by omega) (by omega)
  have g8 : ¬ nI k ≤ (8 : Int32) := nI_ge (a := 8) (by omega) (by omega)
  have g17 : ¬ nI k < (17 : Int32) := nI_nlt (b := 17) (by omega) (by omega)
  have g19 : ¬ nI k ≤ (19 : Int32) := nI_ge (a := 19) (by omega) (by omega)
  have g27 : ¬ nI k < (27 : Int32) := nI_nlt (b := 27) (by omega) (by omega)
  unfold MO_act_f MO_act_20 MO_act_32
  rw [zz_nm_e, h3, zi_in (by decide) ht, zz_gd_t, nI_clamp (by omega), zz_nm_e, h7]
  simp only [g0, g9, g19, g27, f29, if_false]
  unfold MO_act_46
  simp only [f0, f1, f2, f3, f4, f5, f6, f7, f8, f9, f10, f11, f12, f13, f14, f15, f16, f17, f18, f19, f20, f21, f22, f23, f24, f25, f26, f27, f28, f29, f30, f31, f40, f41, f42, f43, f44, f45, if_false]
  unfold MO_more_f
  simp only [f0, f1, f2, f3, f4, f5, f6, f7, f8, f9, f10, f11, f12, f13, f14, f15, f16, f17, f18, f19, f20, f21, f22, f23, f24, f25, f26, f27, f28, f29, f30, f31, f40, f41, f42, f43, f44, f45, g8, g17, if_false, ite_self]
  unfold MO_more_293
  simp only [f19, if_false]
