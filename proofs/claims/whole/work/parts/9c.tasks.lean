/-! the six processes on both sides -/
theorem zz_ag_ap (s : zz_S) (a i : Nat) (v : Int32) (b j : Nat) : zz_ag (zz_ap s a i v) b j = if b = a ∧ j = i then v else zz_ag s b j := by
  show (bif Nat.beq b a then upd (s.2.1 a) i v else s.2.1 b) j = _
  cases e : Nat.beq b a with
  | true =>
    have := zb_t e
    subst this
    show upd (s.2.1 b) i v j = _
    by_cases h : j = i
    · rw [if_pos ⟨rfl, h⟩, h]; exact pk_us
    · rw [if_neg (fun z => h z.2)]; exact pk_un h
  | false =>
    have : ¬ b = a := fun z => by rw [z, Nat.beq_refl] at e; cases e
    rw [if_neg (fun z => this z.1)]
    rfl
theorem zz_n20 (u k : Nat) (h : k < 20) : (20 + u = k) = False := eq_false (fun z => by omega)
theorem zz_ag_sp (s : zz_S) (k : Nat) (v : Int32) (b j : Nat) : zz_ag (zz_sp s k v) b j = zz_ag s b j := rfl
theorem zz_ag_lp (s : zz_S) (a i : Nat) (v : Int64) (b j : Nat) : zz_ag (zz_lp s a i v) b j = zz_ag s b j := rfl
theorem zz_ag_qp (s : zz_S) (k : Nat) (v : Option Nat) (b j : Nat) : zz_ag (zz_qp s k v) b j = zz_ag s b j := rfl
theorem zz_lg_ap (s : zz_S) (a i : Nat) (v : Int32) (b j : Nat) : zz_lg (zz_ap s a i v) b j = zz_lg s b j := rfl
theorem zz_lg_sp (s : zz_S) (k : Nat) (v : Int32) (b j : Nat) : zz_lg (zz_sp s k v) b j = zz_lg s b j := rfl
theorem zz_lg_lp (s : zz_S) (a i : Nat) (v : Int64) (b j : Nat) : zz_lg (zz_lp s a i v) b j = if b = a ∧ j = i then v else zz_lg s b j := by
  show (bif Nat.beq b a then vp_updL (s.2.2.2 a) i v else s.2.2.2 b) j = _
  cases e : Nat.beq b a with
  | true =>
    have := zb_t e
    subst this
    show vp_updL (s.2.2.2 b) i v j = _
    by_cases h : j = i
    · rw [if_pos ⟨rfl, h⟩, h]; exact pk_uLs
    · rw [if_neg (fun z => h z.2)]; exact pk_uLn h
  | false =>
    have : ¬ b = a := fun z => by rw [z, Nat.beq_refl] at e; cases e
    rw [if_neg (fun z => this z.1)]
    rfl
theorem zz_sg_sp (s : zz_S) (k : Nat) (v : Int32) (j : Nat) : zz_sg (zz_sp s k v) j = if j = k then v else zz_sg s j := by
  show (bif Nat.beq j k then v else s.1 j) = _
  cases e : Nat.beq j k with
  | true => rw [if_pos (zb_t e)]; rfl
  | false =>
    have : ¬ j = k := fun z => by rw [z, Nat.beq_refl] at e; cases e
    rw [if_neg this]; rfl
theorem zz_sg_ap (s : zz_S) (a i : Nat) (v : Int32) (j : Nat) : zz_sg (zz_ap s a i v) j = zz_sg s j := rfl
theorem zz_sg_lp (s : zz_S) (a i : Nat) (v : Int64) (j : Nat) : zz_sg (zz_lp s a i v) j = zz_sg s j := rfl
theorem zz_sg_qp (s : zz_S) (k : Nat) (v : Option Nat) (j : Nat) : zz_sg (zz_qp s k v) j = zz_sg s j := rfl
theorem zz_qg_ap (s : zz_S) (a i : Nat) (v : Int32) (j : Nat) : zz_qg (zz_ap s a i v) j = zz_qg s j := rfl
theorem zz_qg_sp (s : zz_S) (k : Nat) (v : Int32) (j : Nat) : zz_qg (zz_sp s k v) j = zz_qg s j := rfl
/-- what stays of a process while it works -/
def zk (c r : zz_S) (t : Nat) : Prop := zz_ag c 8 t = zz_ag r 6 t ∧ zz_ag c 9 t = zz_ag r 7 t ∧ zWd (zz_ag c 9 t) ∧ ∃ d, d ≤ 8 ∧ zz_ag c 10 t = nI d ∧ zz_ag r 8 t = nI d ∧ ∀ i, i < d → zz_ag c (20 + t) i = zz_ag r 9 (8 * t + i) ∧ zWd (zz_ag c (20 + t) i)
def zg (s : Nat) (c r : zz_S) (t : Nat) : Prop := (s = 0 → zz_ag c 8 t = 0 ∧ zz_ag c 9 t = 0 ∧ zz_ag c 10 t = 0) ∧ (s ≠ 0 → zk c r t) ∧ (s = 2 ∨ s = 3 → zz_ag c 11 t = zz_ag r 10 t ∧ ∃ a, a < 4096 ∧ zz_ag r 10 t = nI a) ∧ (¬ (s = 2 ∨ s = 3) → zz_ag c 11 t = -1) ∧ (s = 3 → zz_ag c 12 t = zz_ag r 11 t ∧ zWd (zz_ag r 11 t)) ∧ (s ≠ 3 → zz_ag c 12 t = 0) ∧ (s = 4 → zz_ag c 13 t = zz_ag r 12 t) ∧ (s ≠ 4 → zz_ag c 13 t = 0)
def zt (c r : zz_S) (t : Nat) : Prop := ∃ s, s ≤ 4 ∧ zz_ag c 7 t = nI s ∧ zz_ag r 5 t = nI s ∧ zg s c r t
def zsC (c : zz_S) (t : Nat) : Int := (zz_ag c 14 t).toInt
def zsR (r : zz_S) (t : Nat) : Int := (zz_lg r 1 t).toInt
def zlv (c : zz_S) (t : Nat) : Prop := zz_ag c 7 t = 1 ∨ zz_ag c 7 t = 2 ∨ zz_ag c 7 t = 3
def zTg (B : Nat) (c r : zz_S) : Prop := 0 ≤ (zz_sg c 2).toInt ∧ (zz_sg c 2).toInt ≤ B ∧ 0 ≤ (zz_lg r 0 0).toInt ∧ (zz_lg r 0 0).toInt ≤ B
def zTx (B t : Nat) (c r : zz_S) : Prop := zTg B c r ∧ ∀ u, u < 6 → u ≠ t → zt c r u ∧ (zlv c u → zsC c u ≤ (zz_sg c 2).toInt ∧ zsR r u < (zz_lg r 0 0).toInt ∧ ∀ u', u' < 6 → u' ≠ t → zlv c u' → (zsC c u' ≤ zsC c u ↔ zsR r u' ≤ zsR r u))
def zOc (t : Nat) (c c' : zz_S) : Prop := ∀ u, u < 6 → u ≠ t → (zz_ag c' 7 u = zz_ag c 7 u ∧ zz_ag c' 8 u = zz_ag c 8 u ∧ zz_ag c' 9 u = zz_ag c 9 u ∧ zz_ag c' 10 u = zz_ag c 10 u ∧ zz_ag c' 11 u = zz_ag c 11 u ∧ zz_ag c' 12 u = zz_ag c 12 u ∧ zz_ag c' 13 u = zz_ag c 13 u ∧ zz_ag c' 14 u = zz_ag c 14 u) ∧ ∀ i, i < 8 → zz_ag c' (20 + u) i = zz_ag c (20 + u) i
def zOr (t : Nat) (r r' : zz_S) : Prop := ∀ u, u < 6 → u ≠ t → (zz_ag r' 5 u = zz_ag r 5 u ∧ zz_ag r' 6 u = zz_ag r 6 u ∧ zz_ag r' 7 u = zz_ag r 7 u ∧ zz_ag r' 8 u = zz_ag r 8 u ∧ zz_ag r' 10 u = zz_ag r 10 u ∧ zz_ag r' 11 u = zz_ag r 11 u ∧ zz_ag r' 12 u = zz_ag r 12 u ∧ zz_lg r' 1 u = zz_lg r 1 u) ∧ ∀ i, i < 8 → zz_ag r' 9 (8 * u + i) = zz_ag r 9 (8 * u + i)
theorem zTx_up {B B' t : Nat} {c r : zz_S} (h : zTx B t c r) (hB : B ≤ B') : zTx B' t c r := by
  obtain ⟨⟨h1, h2, h3, h4⟩, h⟩ := h
  exact ⟨⟨h1, by omega, h3, by omega⟩, h⟩
theorem zTx_off {B t t' : Nat} {c r : zz_S} (h : zTx B 6 c r) : zTx B t c r :=
  ⟨h.1, fun u hu _ => ⟨(h.2 u hu (by omega)).1, fun l => ⟨((h.2 u hu (by omega)).2 l).1, ((h.2 u hu (by omega)).2 l).2.1, fun u' hu' _ => ((h.2 u hu (by omega)).2 l).2.2 u' hu' (by omega)⟩⟩⟩
theorem zTx_eq {B B' t : Nat} {c r c' r' : zz_S} (h : zTx B t c r) (hc : zOc t c c') (hr : zOr t r r') (hg : zTg B' c' r') (h1 : (zz_sg c 2).toInt ≤ (zz_sg c' 2).toInt) (h2 : (zz_lg r 0 0).toInt ≤ (zz_lg r' 0 0).toInt) : zTx B' t c' r' := by
  refine ⟨hg, fun u hu hne => ?_⟩
  obtain ⟨⟨c7, c8, c9, c10, c11, c12, c13, c14⟩, cw⟩ := hc u hu hne
  obtain ⟨⟨r5, r6, r7, r8, r10, r11, r12, rl⟩, rw'⟩ := hr u hu hne
  obtain ⟨⟨s, hs4, e7, e5, hz⟩, ho⟩ := h.2 u hu hne
  refine ⟨⟨s, hs4, by rw [c7, e7], by rw [r5, e5], ?_⟩, ?_⟩
  · unfold zg zk at hz ⊢
    rw [c8, c9, c10, c11, c12, c13, r6, r7, r8, r10, r11, r12]
    obtain ⟨z0, z1, z2⟩ := hz
    refine ⟨z0, fun q => ?_, z2⟩
    obtain ⟨k1, k2, k3, d, hd, k4, k5, k6⟩ := z1 q
    refine ⟨k1, k2, k3, d, hd, k4, k5, fun i hi => ?_⟩
    rw [cw i (by omega), rw' i (by omega)]
    exact k6 i hi
  · unfold zlv zsC zsR at ho ⊢
    rw [c7, c14, rl]
    intro l
    obtain ⟨o1, o2, o3⟩ := ho l
    refine ⟨by omega, by omega, fun u' hu' hne' l' => ?_⟩
    obtain ⟨⟨c7', -, -, -, -, -, -, c14'⟩, -⟩ := hc u' hu' hne'
    obtain ⟨⟨-, -, -, -, -, -, -, rl'⟩, -⟩ := hr u' hu' hne'
    rw [c14', rl']
    rw [c7'] at l'
    exact o3 u' hu' hne' l'
theorem zTx_in {B t : Nat} {c r : zz_S} (h : zTx B t c r) (ht : zt c r t) (ho : zlv c t → zsC c t ≤ (zz_sg c 2).toInt ∧ zsR r t < (zz_lg r 0 0).toInt ∧ ∀ u, u < 6 → u ≠ t → zlv c u → (zsC c u ≤ zsC c t ↔ zsR r u ≤ zsR r t) ∧ (zsC c t ≤ zsC c u ↔ zsR r t ≤ zsR r u)) : zTx B 6 c r := by
  refine ⟨h.1, fun u hu _ => ?_⟩
  by_cases e : u = t
  · subst e
    refine ⟨ht, fun l => ⟨(ho l).1, (ho l).2.1, fun u' hu' _ l' => ?_⟩⟩
    by_cases e' : u' = u
    · subst e'
      exact ⟨fun _ => Int.le_refl _, fun _ => Int.le_refl _⟩
    · exact ((ho l).2.2 u' hu' e' l').1
  · obtain ⟨h1, h2⟩ := h.2 u hu e
    refine ⟨h1, fun l => ⟨(h2 l).1, (h2 l).2.1, fun u' hu' _ l' => ?_⟩⟩
    by_cases e' : u' = t
    · subst e'
      exact ((ho l').2.2 u hu e l).2
    · exact (h2 l).2.2 u' hu' e' l'
/-- the order of one that stays -/
theorem zTx_ord {B t : Nat} {c r : zz_S} (h : zTx B 6 c r) (ht : t < 6) (l : zlv c t) : zsC c t ≤ (zz_sg c 2).toInt ∧ zsR r t < (zz_lg r 0 0).toInt ∧ ∀ u, u < 6 → u ≠ t → zlv c u → (zsC c u ≤ zsC c t ↔ zsR r u ≤ zsR r t) ∧ (zsC c t ≤ zsC c u ↔ zsR r t ≤ zsR r u) := by
  obtain ⟨o1, o2, o3⟩ := (h.2 t ht (by omega)).2 l
  exact ⟨o1, o2, fun u hu _ lu => ⟨o3 u hu (by omega) lu, ((h.2 u hu (by omega)).2 lu).2.2 t ht (by omega) l⟩⟩
theorem zz_inc {x : Int32} {B : Nat} (h0 : 0 ≤ x.toInt) (h : x.toInt ≤ B) (hB : B < 2147483647) : (x + 1).toInt = x.toInt + 1 := by
  rw [Int32.toInt_add, show (1 : Int32).toInt = 1 from by decide]
  apply Int.bmod_eq_of_le <;> omega
theorem zz_incL {x : Int64} {B : Nat} (h0 : 0 ≤ x.toInt) (h : x.toInt ≤ B) (hB : B < 2147483647) : (x + 1).toInt = x.toInt + 1 := by
  rw [Int64.toInt_add, show (1 : Int64).toInt = 1 from by decide]
  apply Int.bmod_eq_of_le <;> omega
/-- a process that comes to where it is now: behind all the others -/
theorem zT_new {B t : Nat} {c r c' r' : zz_S} (h : zTx B t c r) (hB : B < 2147483646) (hc : zOc t c c') (hr : zOr t r r') (h2 : zz_sg c' 2 = zz_sg c 2 + 1) (h14 : zz_ag c' 14 t = zz_sg c 2 + 1) (hl1 : zz_lg r' 1 t = zz_lg r 0 0) (hl0 : zz_lg r' 0 0 = zz_lg r 0 0 + 1) (ht : zt c' r' t) : zTx (B + 1) 6 c' r' := by
  obtain ⟨g1, g2, g3, g4⟩ := h.1
  have e1 := zz_inc g1 g2 (by omega)
  have e2 := zz_incL g3 g4 (by omega)
  have hx : zTx (B + 1) t c' r' := zTx_eq h hc hr ⟨by rw [h2, e1]; omega, by rw [h2, e1]; omega, by rw [hl0, e2]; omega, by rw [hl0, e2]; omega⟩ (by rw [h2, e1]; omega) (by rw [hl0, e2]; omega)
  refine zTx_in hx ht (fun l => ⟨by unfold zsC; rw [h14, h2]; omega, by unfold zsR; rw [hl1, hl0, e2]; omega, fun u hu hne lu => ?_⟩)
  have q : zsC c' u ≤ (zz_sg c 2).toInt ∧ zsR r' u < (zz_lg r 0 0).toInt := by
    obtain ⟨⟨c7, -, -, -, -, -, -, c14⟩, -⟩ := hc u hu hne
    obtain ⟨⟨-, -, -, -, -, -, -, rl⟩, -⟩ := hr u hu hne
    unfold zlv at lu
    rw [c7] at lu
    have := (h.2 u hu hne).2 lu
    unfold zsC zsR at this ⊢
    rw [c14, rl]
    exact ⟨this.1, this.2.1⟩
  have q1 : zsC c' t = (zz_sg c 2).toInt + 1 := by unfold zsC; rw [h14, e1]
  have q2 : zsR r' t = (zz_lg r 0 0).toInt := by unfold zsR; rw [hl1]
  omega
/-- a process that waits for nothing -/
theorem zT_dead {B B' t : Nat} {c r c' r' : zz_S} (h : zTx B t c r) (hc : zOc t c c') (hr : zOr t r r') (hg : zTg B' c' r') (h2 : (zz_sg c 2).toInt ≤ (zz_sg c' 2).toInt) (hl0 : zz_lg r' 0 0 = zz_lg r 0 0) (ht : zt c' r' t) (hn : ¬ zlv c' t) : zTx B' 6 c' r' :=
  zTx_in (zTx_eq h hc hr hg h2 (by rw [hl0]; exact Int.le_refl _)) ht (fun l => absurd l hn)
