/-! the whole run of calls -/
theorem zz_lf_s {α σ τ : Type} (put : σ → τ) (a : α) (s : σ) : zz_lf put (some (a, s)) = some (a, put s) := rfl
theorem zz_bt_l {α β σ : Type} (a : α) (s : σ) (f : α → σ → Option (β × σ)) (g : Nat → σ → Option (β × σ)) : zz_bt (some ((Sum.inl a : α ⊕ Nat), s)) f g = f a s := rfl
theorem zz_bt_r {α β σ : Type} (n : Nat) (s : σ) (f : α → σ → Option (β × σ)) (g : Nat → σ → Option (β × σ)) : zz_bt (some ((Sum.inr n : α ⊕ Nat), s)) f g = g n s := rfl
theorem zla_u0 {B : Nat} {x : Option ((Unit ⊕ Nat) × zz_S)} {y : Option (Unit × zz_S)} (h : zr x y (zRu ze0 B)) (R : zz_S) (o : Int64) : ∃ k C1 R1, zz_bt (zz_lf (fun s => ((s, R, o) : zl_S)) x) (fun _ s1 => some ((Sum.inl 0 : Int32 ⊕ Nat), s1)) (fun i s1 => if i = 0 then some ((Sum.inl 1 : Int32 ⊕ Nat), s1) else none) = some (Sum.inl k, (C1, R, o)) ∧ y = some ((), R1) ∧ zz_sg R1 0 = k ∧ zI B C1 R1 := by
  obtain ⟨a, C1, b, R1, rfl, rfl, hI, ⟨rfl, h0⟩ | ⟨i, rfl, h1, h2⟩⟩ := h
  · exact ⟨0, C1, R1, rfl, rfl, h0, hI⟩
  · unfold ze0 at h1 h2
    by_cases q0 : i = 0
    · rw [if_pos q0] at h1
      refine ⟨1, C1, R1, ?_, rfl, h1, hI⟩
      rw [zz_lf_s, zz_bt_r, if_pos q0]
    · exact absurd rfl (by rw [if_neg q0] at h2; exact h2)
theorem zla_v0 {B : Nat} {x : Option ((Int32 ⊕ Nat) × zz_S)} {y : Option (Int32 × zz_S)} (h : zr x y (zRv ze0 B)) (R : zz_S) (o : Int64) : ∃ k C1 R1 o1 b, zz_bt (zz_lf (fun s => ((s, R, o) : zl_S)) x) (fun r s1 => zz_gd (zz_in 0 1) (some ((Sum.inl 0 : Int32 ⊕ Nat), ((s1.1, s1.2.1, r.toInt64) : zl_S)))) (fun i s1 => if i = 0 then some ((Sum.inl 1 : Int32 ⊕ Nat), s1) else none) = some (Sum.inl k, (C1, R, o1)) ∧ y = some (b, R1) ∧ zz_sg R1 0 = k ∧ zI B C1 R1 ∧ (k = 0 → o1 = b.toInt64) := by
  obtain ⟨a, C1, b, R1, rfl, rfl, hI, ⟨rfl, h0⟩ | ⟨i, rfl, h1, h2⟩⟩ := h
  · exact ⟨0, C1, R1, b.toInt64, b, rfl, rfl, h0, hI, fun _ => rfl⟩
  · unfold ze0 at h1 h2
    by_cases q0 : i = 0
    · rw [if_pos q0] at h1
      refine ⟨1, C1, R1, o, b, ?_, rfl, h1, hI, fun z => absurd z (by decide)⟩
      rw [zz_lf_s, zz_bt_r, if_pos q0]
    · exact absurd rfl (by rw [if_neg q0] at h2; exact h2)
theorem zla_u01 {B : Nat} {x : Option ((Unit ⊕ Nat) × zz_S)} {y : Option (Unit × zz_S)} (h : zr x y (zRu ze01 B)) (R : zz_S) (o : Int64) : ∃ k C1 R1, zz_bt (zz_lf (fun s => ((s, R, o) : zl_S)) x) (fun _ s1 => some ((Sum.inl 0 : Int32 ⊕ Nat), s1)) (fun i s1 => if i = 0 then some ((Sum.inl 1 : Int32 ⊕ Nat), s1) else if i = 1 then some ((Sum.inl 2 : Int32 ⊕ Nat), s1) else none) = some (Sum.inl k, (C1, R, o)) ∧ y = some ((), R1) ∧ zz_sg R1 0 = k ∧ zI B C1 R1 := by
  obtain ⟨a, C1, b, R1, rfl, rfl, hI, ⟨rfl, h0⟩ | ⟨i, rfl, h1, h2⟩⟩ := h
  · exact ⟨0, C1, R1, rfl, rfl, h0, hI⟩
  · unfold ze01 at h1 h2
    by_cases q0 : i = 0
    · rw [if_pos q0] at h1
      refine ⟨1, C1, R1, ?_, rfl, h1, hI⟩
      rw [zz_lf_s, zz_bt_r, if_pos q0]
    · by_cases q1 : i = 1
      · rw [if_neg q0, if_pos q1] at h1
        refine ⟨2, C1, R1, ?_, rfl, h1, hI⟩
        rw [zz_lf_s, zz_bt_r, if_neg q0, if_pos q1]
      · exact absurd rfl (by rw [if_neg q0, if_neg q1] at h2; exact h2)
theorem zla_v01 {B : Nat} {x : Option ((Int32 ⊕ Nat) × zz_S)} {y : Option (Int32 × zz_S)} (h : zr x y (zRv ze01 B)) (R : zz_S) (o : Int64) : ∃ k C1 R1 o1 b, zz_bt (zz_lf (fun s => ((s, R, o) : zl_S)) x) (fun r s1 => zz_gd (zz_in 0 1) (some ((Sum.inl 0 : Int32 ⊕ Nat), ((s1.1, s1.2.1, r.toInt64) : zl_S)))) (fun i s1 => if i = 0 then some ((Sum.inl 1 : Int32 ⊕ Nat), s1) else if i = 1 then some ((Sum.inl 2 : Int32 ⊕ Nat), s1) else none) = some (Sum.inl k, (C1, R, o1)) ∧ y = some (b, R1) ∧ zz_sg R1 0 = k ∧ zI B C1 R1 ∧ (k = 0 → o1 = b.toInt64) := by
  obtain ⟨a, C1, b, R1, rfl, rfl, hI, ⟨rfl, h0⟩ | ⟨i, rfl, h1, h2⟩⟩ := h
  · exact ⟨0, C1, R1, b.toInt64, b, rfl, rfl, h0, hI, fun _ => rfl⟩
  · unfold ze01 at h1 h2
    by_cases q0 : i = 0
    · rw [if_pos q0] at h1
      refine ⟨1, C1, R1, o, b, ?_, rfl, h1, hI, fun z => absurd z (by decide)⟩
      rw [zz_lf_s, zz_bt_r, if_pos q0]
    · by_cases q1 : i = 1
      · rw [if_neg q0, if_pos q1] at h1
        refine ⟨2, C1, R1, o, b, ?_, rfl, h1, hI, fun z => absurd z (by decide)⟩
        rw [zz_lf_s, zz_bt_r, if_neg q0, if_pos q1]
      · exact absurd rfl (by rw [if_neg q0, if_neg q1] at h2; exact h2)
theorem zla_u1 {B : Nat} {x : Option ((Unit ⊕ Nat) × zz_S)} {y : Option (Unit × zz_S)} (h : zr x y (zRu ze1 B)) (R : zz_S) (o : Int64) : ∃ k C1 R1, zz_bt (zz_lf (fun s => ((s, R, o) : zl_S)) x) (fun _ s1 => some ((Sum.inl 0 : Int32 ⊕ Nat), s1)) (fun i s1 => if i = 1 then some ((Sum.inl 1 : Int32 ⊕ Nat), s1) else none) = some (Sum.inl k, (C1, R, o)) ∧ y = some ((), R1) ∧ zz_sg R1 0 = k ∧ zI B C1 R1 := by
  obtain ⟨a, C1, b, R1, rfl, rfl, hI, ⟨rfl, h0⟩ | ⟨i, rfl, h1, h2⟩⟩ := h
  · exact ⟨0, C1, R1, rfl, rfl, h0, hI⟩
  · unfold ze1 at h1 h2
    by_cases q1 : i = 1
    · rw [if_pos q1] at h1
      refine ⟨1, C1, R1, ?_, rfl, h1, hI⟩
      rw [zz_lf_s, zz_bt_r, if_pos q1]
    · exact absurd rfl (by rw [if_neg q1] at h2; exact h2)
theorem zla_v1 {B : Nat} {x : Option ((Int32 ⊕ Nat) × zz_S)} {y : Option (Int32 × zz_S)} (h : zr x y (zRv ze1 B)) (R : zz_S) (o : Int64) : ∃ k C1 R1 o1 b, zz_bt (zz_lf (fun s => ((s, R, o) : zl_S)) x) (fun r s1 => zz_gd (zz_in 0 1) (some ((Sum.inl 0 : Int32 ⊕ Nat), ((s1.1, s1.2.1, r.toInt64) : zl_S)))) (fun i s1 => if i = 1 then some ((Sum.inl 1 : Int32 ⊕ Nat), s1) else none) = some (Sum.inl k, (C1, R, o1)) ∧ y = some (b, R1) ∧ zz_sg R1 0 = k ∧ zI B C1 R1 ∧ (k = 0 → o1 = b.toInt64) := by
  obtain ⟨a, C1, b, R1, rfl, rfl, hI, ⟨rfl, h0⟩ | ⟨i, rfl, h1, h2⟩⟩ := h
  · exact ⟨0, C1, R1, b.toInt64, b, rfl, rfl, h0, hI, fun _ => rfl⟩
  · unfold ze1 at h1 h2
    by_cases q1 : i = 1
    · rw [if_pos q1] at h1
      refine ⟨1, C1, R1, o, b, ?_, rfl, h1, hI, fun z => absurd z (by decide)⟩
      rw [zz_lf_s, zz_bt_r, if_pos q1]
    · exact absurd rfl (by rw [if_neg q1] at h2; exact h2)
theorem zla_u2 {B : Nat} {x : Option ((Unit ⊕ Nat) × zz_S)} {y : Option (Unit × zz_S)} (h : zr x y (zRu ze2 B)) (R : zz_S) (o : Int64) : ∃ k C1 R1, zz_bt (zz_lf (fun s => ((s, R, o) : zl_S)) x) (fun _ s1 => some ((Sum.inl 0 : Int32 ⊕ Nat), s1)) (fun i s1 => if i = 2 then some ((Sum.inl 1 : Int32 ⊕ Nat), s1) else none) = some (Sum.inl k, (C1, R, o)) ∧ y = some ((), R1) ∧ zz_sg R1 0 = k ∧ zI B C1 R1 := by
  obtain ⟨a, C1, b, R1, rfl, rfl, hI, ⟨rfl, h0⟩ | ⟨i, rfl, h1, h2⟩⟩ := h
  · exact ⟨0, C1, R1, rfl, rfl, h0, hI⟩
  · unfold ze2 at h1 h2
    by_cases q2 : i = 2
    · rw [if_pos q2] at h1
      refine ⟨1, C1, R1, ?_, rfl, h1, hI⟩
      rw [zz_lf_s, zz_bt_r, if_pos q2]
    · exact absurd rfl (by rw [if_neg q2] at h2; exact h2)
theorem zla_v2 {B : Nat} {x : Option ((Int32 ⊕ Nat) × zz_S)} {y : Option (Int32 × zz_S)} (h : zr x y (zRv ze2 B)) (R : zz_S) (o : Int64) : ∃ k C1 R1 o1 b, zz_bt (zz_lf (fun s => ((s, R, o) : zl_S)) x) (fun r s1 => zz_gd (zz_in 0 1) (some ((Sum.inl 0 : Int32 ⊕ Nat), ((s1.1, s1.2.1, r.toInt64) : zl_S)))) (fun i s1 => if i = 2 then some ((Sum.inl 1 : Int32 ⊕ Nat), s1) else none) = some (Sum.inl k, (C1, R, o1)) ∧ y = some (b, R1) ∧ zz_sg R1 0 = k ∧ zI B C1 R1 ∧ (k = 0 → o1 = b.toInt64) := by
  obtain ⟨a, C1, b, R1, rfl, rfl, hI, ⟨rfl, h0⟩ | ⟨i, rfl, h1, h2⟩⟩ := h
  · exact ⟨0, C1, R1, b.toInt64, b, rfl, rfl, h0, hI, fun _ => rfl⟩
  · unfold ze2 at h1 h2
    by_cases q2 : i = 2
    · rw [if_pos q2] at h1
      refine ⟨1, C1, R1, o, b, ?_, rfl, h1, hI, fun z => absurd z (by decide)⟩
      rw [zz_lf_s, zz_bt_r, if_pos q2]
    · exact absurd rfl (by rw [if_neg q2] at h2; exact h2)
theorem lg_same (x : Int64) : lg_cmp x x = 0 := by
  unfold lg_cmp
  rw [if_neg (Int64.lt_irrefl), if_pos rfl]
theorem zlw_0 {L i B : Nat} {xs : Nat → Int32} {C R : zz_S} {o : Int64} (k23 : Int32 → zl_S → Option (Int32 × zl_S)) (h : zI B C R) (hB : B < 2147400000) (hL : L ≤ 1536) (hi : i + 2 < L) (hv : xs i &&& 15 = 0) : ∃ C' R' o', LA_law_23b L xs k23 (nI i) (C, R, o) = k23 (nI i + 3) (C', R', o') ∧ zI (B + 4000) C' R' := by
  have e2 : nI i + 2 = nI (i + 2) := by rw [show (2 : Int32) = nI 2 from by decide, nI_add]
  have g0 : zz_in (nI i) L = true := zi_in (by omega) (by omega)
  have g1 : zz_in (nI (i + 1)) L = true := zi_in (by omega) (by omega)
  have g2 : zz_in (nI (i + 2)) L = true := zi_in (by omega) (by omega)
  have c0 : (nI i).toNatClampNeg = i := nI_clamp (by omega)
  have c1 : (nI (i + 1)).toNatClampNeg = i + 1 := nI_clamp (by omega)
  have c2 : (nI (i + 2)).toNatClampNeg = i + 2 := nI_clamp (by omega)
  have hlt : ¬ Int32.ofNat L - 3 < nI i := by
    rw [show Int32.ofNat L = nI L from rfl, show (3 : Int32) = nI 3 from by decide, zi_sub (by omega)]
    exact nI_nlt (by omega) (by omega)
  unfold LA_law_23b
  simp (decide := true) only [hlt, if_false, g0, zz_gd_t, zz_nm_e, c0, hv, nI_1, e2, g1, g2, c1, c2, ↓reduceIte]
  obtain ⟨k, C1, R1, z1, z2, z3, z4⟩ := zla_u0 (zc_map h (xs (i + 1)) (xs (i + 2))) R o
  have z1' : LA_map_f (xs (i + 1)) (xs (i + 2)) (C, R, o) = some (Sum.inl k, (C1, R, o)) := z1
  rw [z1', zz_bt_l]
  dsimp only
  rw [z2, zz_lf_s, zz_bd_s]
  unfold MO_thrown_f
  dsimp only
  rw [zz_lf_s, zz_bd_s, if_pos z3]
  exact ⟨C1, R1, o, rfl, zI_up z4 (by omega)⟩
theorem zlw_p {L B : Nat} {xs : Nat → Int32} {C R : zz_S} {o : Int64} (k23 : Int32 → zl_S → Option (Int32 × zl_S)) (h : zI B C R) (hB : B < 2147400000) (x4 x : Int32) {y : Int32} (hy : y = 0 ∨ y = 1) : ∃ C1 R1 k, LA_protect_f x y (C, R, o) = some (Sum.inl k, (C1, R, o)) ∧ LA_law_211 L xs k23 x4 k y x (C1, R, o) = k23 (x4 + 3) (C1, R1, o) ∧ zI (B + 4000) C1 R1 := by
  obtain ⟨k, C1, R1, z1, z2, z3, z4⟩ := zla_u0 (zc_protect h x hy) R o
  refine ⟨C1, R1, k, z1, ?_, zI_up z4 (by omega)⟩
  unfold LA_law_211 MO_thrown_f
  dsimp only
  rw [z2, zz_lf_s, zz_bd_s]
  dsimp only
  rw [zz_lf_s, zz_bd_s, if_pos z3]
  rfl
theorem zlw_1 {L i B : Nat} {xs : Nat → Int32} {C R : zz_S} {o : Int64} (k23 : Int32 → zl_S → Option (Int32 × zl_S)) (h : zI B C R) (hB : B < 2147400000) (hL : L ≤ 1536) (hi : i + 2 < L) (hv : xs i &&& 15 = 1) : ∃ C' R' o', LA_law_23b L xs k23 (nI i) (C, R, o) = k23 (nI i + 3) (C', R', o') ∧ zI (B + 4000) C' R' := by
  have e2 : nI i + 2 = nI (i + 2) := by rw [show (2 : Int32) = nI 2 from by decide, nI_add]
  have g0 : zz_in (nI i) L = true := zi_in (by omega) (by omega)
  have g1 : zz_in (nI (i + 1)) L = true := zi_in (by omega) (by omega)
  have g2 : zz_in (nI (i + 2)) L = true := zi_in (by omega) (by omega)
  have c0 : (nI i).toNatClampNeg = i := nI_clamp (by omega)
  have c1 : (nI (i + 1)).toNatClampNeg = i + 1 := nI_clamp (by omega)
  have c2 : (nI (i + 2)).toNatClampNeg = i + 2 := nI_clamp (by omega)
  have hlt : ¬ Int32.ofNat L - 3 < nI i := by
    rw [show Int32.ofNat L = nI L from rfl, show (3 : Int32) = nI 3 from by decide, zi_sub (by omega)]
    exact nI_nlt (by omega) (by omega)
  unfold LA_law_23b
  simp (decide := true) only [hlt, if_false, g0, zz_gd_t, zz_nm_e, c0, hv, nI_1, e2, g1, g2, c1, c2, ↓reduceIte]
  unfold LA_law_185
  by_cases y0 : xs (i + 2) = 0
  · obtain ⟨C1, R1, k, z1, z2, z3⟩ := zlw_p (L := L) (xs := xs) (o := o) k23 h hB (nI i) (xs (i + 1)) (Or.inl rfl)
    simp only [y0, if_true, z1, zz_bt_l, zz_nm_e, nI_1, e2, g1, g2, c1, c2, zz_gd_t, z2]
    exact ⟨C1, R1, o, rfl, z3⟩
  · obtain ⟨C1, R1, k, z1, z2, z3⟩ := zlw_p (L := L) (xs := xs) (o := o) k23 h hB (nI i) (xs (i + 1)) (Or.inr rfl)
    simp only [y0, if_false, z1, zz_bt_l, zz_nm_e, nI_1, e2, g1, g2, c1, c2, zz_gd_t, z2]
    exact ⟨C1, R1, o, rfl, z3⟩
theorem zlw_2 {L i B : Nat} {xs : Nat → Int32} {C R : zz_S} {o : Int64} (k23 : Int32 → zl_S → Option (Int32 × zl_S)) (h : zI B C R) (hB : B < 2147400000) (hL : L ≤ 1536) (hi : i + 2 < L) (hv : xs i &&& 15 = 2) : ∃ C' R' o', LA_law_23b L xs k23 (nI i) (C, R, o) = k23 (nI i + 3) (C', R', o') ∧ zI (B + 4000) C' R' := by
  have e2 : nI i + 2 = nI (i + 2) := by rw [show (2 : Int32) = nI 2 from by decide, nI_add]
  have g0 : zz_in (nI i) L = true := zi_in (by omega) (by omega)
  have g1 : zz_in (nI (i + 1)) L = true := zi_in (by omega) (by omega)
  have g2 : zz_in (nI (i + 2)) L = true := zi_in (by omega) (by omega)
  have c0 : (nI i).toNatClampNeg = i := nI_clamp (by omega)
  have c1 : (nI (i + 1)).toNatClampNeg = i + 1 := nI_clamp (by omega)
  have c2 : (nI (i + 2)).toNatClampNeg = i + 2 := nI_clamp (by omega)
  have hlt : ¬ Int32.ofNat L - 3 < nI i := by
    rw [show Int32.ofNat L = nI L from rfl, show (3 : Int32) = nI 3 from by decide, zi_sub (by omega)]
    exact nI_nlt (by omega) (by omega)
  unfold LA_law_23b
  simp (decide := true) only [hlt, if_false, g0, zz_gd_t, zz_nm_e, c0, hv, nI_1, e2, g1, g2, c1, c2, ↓reduceIte]
  obtain ⟨k, C1, R1, o1, b, z1, z2, z3, z4, z5⟩ := zla_v0 (zc_noted h (xs (i + 1))) R o
  have z1' : LA_noted_f (xs (i + 1)) (C, R, o) = some (Sum.inl k, (C1, R, o1)) := z1
  rw [z1', zz_bt_l]
  dsimp only
  rw [z2, zz_lf_s, zz_bd_s]
  unfold MO_thrown_f LA_law_281
  dsimp only
  rw [zz_lf_s, zz_bd_s, if_pos z3]
  by_cases k0 : k = 0
  · rw [if_pos k0, show zz_in (0 : Int32) 1 = true from by decide, zz_gd_t, show lg_cmp (zl_o o1 (0 : Int32).toNatClampNeg) b.toInt64 = 0 from by rw [z5 k0]; exact lg_same _, if_pos rfl]
    exact ⟨C1, R1, o1, rfl, zI_up z4 (by omega)⟩
  · rw [if_neg k0]
    exact ⟨C1, R1, o1, rfl, zI_up z4 (by omega)⟩
theorem zlw_3 {L i B : Nat} {xs : Nat → Int32} {C R : zz_S} {o : Int64} (k23 : Int32 → zl_S → Option (Int32 × zl_S)) (h : zI B C R) (hB : B < 2147400000) (hL : L ≤ 1536) (hi : i + 2 < L) (hv : xs i &&& 15 = 3) : ∃ C' R' o', LA_law_23b L xs k23 (nI i) (C, R, o) = k23 (nI i + 3) (C', R', o') ∧ zI (B + 4000) C' R' := by
  have e2 : nI i + 2 = nI (i + 2) := by rw [show (2 : Int32) = nI 2 from by decide, nI_add]
  have g0 : zz_in (nI i) L = true := zi_in (by omega) (by omega)
  have g1 : zz_in (nI (i + 1)) L = true := zi_in (by omega) (by omega)
  have g2 : zz_in (nI (i + 2)) L = true := zi_in (by omega) (by omega)
  have c0 : (nI i).toNatClampNeg = i := nI_clamp (by omega)
  have c1 : (nI (i + 1)).toNatClampNeg = i + 1 := nI_clamp (by omega)
  have c2 : (nI (i + 2)).toNatClampNeg = i + 2 := nI_clamp (by omega)
  have hlt : ¬ Int32.ofNat L - 3 < nI i := by
    rw [show Int32.ofNat L = nI L from rfl, show (3 : Int32) = nI 3 from by decide, zi_sub (by omega)]
    exact nI_nlt (by omega) (by omega)
  unfold LA_law_23b
  simp (decide := true) only [hlt, if_false, g0, zz_gd_t, zz_nm_e, c0, hv, nI_1, e2, g1, g2, c1, c2, ↓reduceIte]
  obtain ⟨k, C1, R1, z1, z2, z3, z4⟩ := zla_u01 (zc_poke h (xs (i + 1)) (xs (i + 2))) R o
  have z1' : LA_poke_f (xs (i + 1)) (xs (i + 2)) (C, R, o) = some (Sum.inl k, (C1, R, o)) := z1
  rw [z1', zz_bt_l]
  dsimp only
  rw [z2, zz_lf_s, zz_bd_s]
  unfold MO_thrown_f
  dsimp only
  rw [zz_lf_s, zz_bd_s, if_pos z3]
  exact ⟨C1, R1, o, rfl, zI_up z4 (by omega)⟩
theorem zlw_4 {L i B : Nat} {xs : Nat → Int32} {C R : zz_S} {o : Int64} (k23 : Int32 → zl_S → Option (Int32 × zl_S)) (h : zI B C R) (hB : B < 2147400000) (hL : L ≤ 1536) (hi : i + 2 < L) (hv : xs i &&& 15 = 4) : ∃ C' R' o', LA_law_23b L xs k23 (nI i) (C, R, o) = k23 (nI i + 3) (C', R', o') ∧ zI (B + 4000) C' R' := by
  have e2 : nI i + 2 = nI (i + 2) := by rw [show (2 : Int32) = nI 2 from by decide, nI_add]
  have g0 : zz_in (nI i) L = true := zi_in (by omega) (by omega)
  have g1 : zz_in (nI (i + 1)) L = true := zi_in (by omega) (by omega)
  have g2 : zz_in (nI (i + 2)) L = true := zi_in (by omega) (by omega)
  have c0 : (nI i).toNatClampNeg = i := nI_clamp (by omega)
  have c1 : (nI (i + 1)).toNatClampNeg = i + 1 := nI_clamp (by omega)
  have c2 : (nI (i + 2)).toNatClampNeg = i + 2 := nI_clamp (by omega)
  have hlt : ¬ Int32.ofNat L - 3 < nI i := by
    rw [show Int32.ofNat L = nI L from rfl, show (3 : Int32) = nI 3 from by decide, zi_sub (by omega)]
    exact nI_nlt (by omega) (by omega)
  unfold LA_law_23b
  simp (decide := true) only [hlt, if_false, g0, zz_gd_t, zz_nm_e, c0, hv, nI_1, e2, g1, g2, c1, c2, ↓reduceIte]
  obtain ⟨k, C1, R1, o1, b, z1, z2, z3, z4, z5⟩ := zla_v01 (zc_peek h (xs (i + 1))) R o
  have z1' : LA_peek_f (xs (i + 1)) (C, R, o) = some (Sum.inl k, (C1, R, o1)) := z1
  rw [z1', zz_bt_l]
  dsimp only
  rw [z2, zz_lf_s, zz_bd_s]
  unfold MO_thrown_f LA_law_385
  dsimp only
  rw [zz_lf_s, zz_bd_s, if_pos z3]
  by_cases k0 : k = 0
  · rw [if_pos k0, show zz_in (0 : Int32) 1 = true from by decide, zz_gd_t, show lg_cmp (zl_o o1 (0 : Int32).toNatClampNeg) b.toInt64 = 0 from by rw [z5 k0]; exact lg_same _, if_pos rfl]
    exact ⟨C1, R1, o1, rfl, zI_up z4 (by omega)⟩
  · rw [if_neg k0]
    exact ⟨C1, R1, o1, rfl, zI_up z4 (by omega)⟩
theorem zlw_5 {L i B : Nat} {xs : Nat → Int32} {C R : zz_S} {o : Int64} (k23 : Int32 → zl_S → Option (Int32 × zl_S)) (h : zI B C R) (hB : B < 2147400000) (hL : L ≤ 1536) (hi : i + 2 < L) (hv : xs i &&& 15 = 5) : ∃ C' R' o', LA_law_23b L xs k23 (nI i) (C, R, o) = k23 (nI i + 3) (C', R', o') ∧ zI (B + 4000) C' R' := by
  have e2 : nI i + 2 = nI (i + 2) := by rw [show (2 : Int32) = nI 2 from by decide, nI_add]
  have g0 : zz_in (nI i) L = true := zi_in (by omega) (by omega)
  have g1 : zz_in (nI (i + 1)) L = true := zi_in (by omega) (by omega)
  have g2 : zz_in (nI (i + 2)) L = true := zi_in (by omega) (by omega)
  have c0 : (nI i).toNatClampNeg = i := nI_clamp (by omega)
  have c1 : (nI (i + 1)).toNatClampNeg = i + 1 := nI_clamp (by omega)
  have c2 : (nI (i + 2)).toNatClampNeg = i + 2 := nI_clamp (by omega)
  have hlt : ¬ Int32.ofNat L - 3 < nI i := by
    rw [show Int32.ofNat L = nI L from rfl, show (3 : Int32) = nI 3 from by decide, zi_sub (by omega)]
    exact nI_nlt (by omega) (by omega)
  unfold LA_law_23b
  simp (decide := true) only [hlt, if_false, g0, zz_gd_t, zz_nm_e, c0, hv, nI_1, e2, g1, g2, c1, c2, ↓reduceIte]
  obtain ⟨k, C1, R1, o1, b, z1, z2, z3, z4, z5⟩ := zla_v1 (zc_start h (by omega) (xs (i + 1)) (xs (i + 2))) R o
  have z1' : LA_start_f (xs (i + 1)) (xs (i + 2)) (C, R, o) = some (Sum.inl k, (C1, R, o1)) := z1
  rw [z1', zz_bt_l]
  dsimp only
  rw [z2, zz_lf_s, zz_bd_s]
  unfold MO_thrown_f LA_law_453
  dsimp only
  rw [zz_lf_s, zz_bd_s, if_pos z3]
  by_cases k0 : k = 0
  · rw [if_pos k0, show zz_in (0 : Int32) 1 = true from by decide, zz_gd_t, show lg_cmp (zl_o o1 (0 : Int32).toNatClampNeg) b.toInt64 = 0 from by rw [z5 k0]; exact lg_same _, if_pos rfl]
    exact ⟨C1, R1, o1, rfl, zI_up z4 (by omega)⟩
  · rw [if_neg k0]
    exact ⟨C1, R1, o1, rfl, zI_up z4 (by omega)⟩
theorem zlw_6 {L i B : Nat} {xs : Nat → Int32} {C R : zz_S} {o : Int64} (k23 : Int32 → zl_S → Option (Int32 × zl_S)) (h : zI B C R) (hB : B < 2147400000) (hL : L ≤ 1536) (hi : i + 2 < L) (hv : xs i &&& 15 = 6) : ∃ C' R' o', LA_law_23b L xs k23 (nI i) (C, R, o) = k23 (nI i + 3) (C', R', o') ∧ zI (B + 4000) C' R' := by
  have e2 : nI i + 2 = nI (i + 2) := by rw [show (2 : Int32) = nI 2 from by decide, nI_add]
  have g0 : zz_in (nI i) L = true := zi_in (by omega) (by omega)
  have g1 : zz_in (nI (i + 1)) L = true := zi_in (by omega) (by omega)
  have g2 : zz_in (nI (i + 2)) L = true := zi_in (by omega) (by omega)
  have c0 : (nI i).toNatClampNeg = i := nI_clamp (by omega)
  have c1 : (nI (i + 1)).toNatClampNeg = i + 1 := nI_clamp (by omega)
  have c2 : (nI (i + 2)).toNatClampNeg = i + 2 := nI_clamp (by omega)
  have hlt : ¬ Int32.ofNat L - 3 < nI i := by
    rw [show Int32.ofNat L = nI L from rfl, show (3 : Int32) = nI 3 from by decide, zi_sub (by omega)]
    exact nI_nlt (by omega) (by omega)
  unfold LA_law_23b
  simp (decide := true) only [hlt, if_false, g0, zz_gd_t, zz_nm_e, c0, hv, nI_1, e2, g1, g2, c1, c2, ↓reduceIte]
  obtain ⟨k, C1, R1, o1, b, z1, z2, z3, z4, z5⟩ := zla_v2 (zc_run h (by omega) (xs (i + 1))) R o
  have z1' : LA_run_f (xs (i + 1)) (C, R, o) = some (Sum.inl k, (C1, R, o1)) := z1
  rw [z1', zz_bt_l]
  dsimp only
  rw [z2, zz_lf_s, zz_bd_s]
  unfold MO_thrown_f LA_law_509
  dsimp only
  rw [zz_lf_s, zz_bd_s, if_pos z3]
  by_cases k0 : k = 0
  · rw [if_pos k0, show zz_in (0 : Int32) 1 = true from by decide, zz_gd_t, show lg_cmp (zl_o o1 (0 : Int32).toNatClampNeg) b.toInt64 = 0 from by rw [z5 k0]; exact lg_same _, if_pos rfl]
    exact ⟨C1, R1, o1, rfl, zI_up z4 (by omega)⟩
  · rw [if_neg k0]
    exact ⟨C1, R1, o1, rfl, zI_up z4 (by omega)⟩
theorem zlw_7 {L i B : Nat} {xs : Nat → Int32} {C R : zz_S} {o : Int64} (k23 : Int32 → zl_S → Option (Int32 × zl_S)) (h : zI B C R) (hB : B < 2147400000) (hL : L ≤ 1536) (hi : i + 2 < L) (hv : xs i &&& 15 = 7) : ∃ C' R' o', LA_law_23b L xs k23 (nI i) (C, R, o) = k23 (nI i + 3) (C', R', o') ∧ zI (B + 4000) C' R' := by
  have e2 : nI i + 2 = nI (i + 2) := by rw [show (2 : Int32) = nI 2 from by decide, nI_add]
  have g0 : zz_in (nI i) L = true := zi_in (by omega) (by omega)
  have g1 : zz_in (nI (i + 1)) L = true := zi_in (by omega) (by omega)
  have g2 : zz_in (nI (i + 2)) L = true := zi_in (by omega) (by omega)
  have c0 : (nI i).toNatClampNeg = i := nI_clamp (by omega)
  have c1 : (nI (i + 1)).toNatClampNeg = i + 1 := nI_clamp (by omega)
  have c2 : (nI (i + 2)).toNatClampNeg = i + 2 := nI_clamp (by omega)
  have hlt : ¬ Int32.ofNat L - 3 < nI i := by
    rw [show Int32.ofNat L = nI L from rfl, show (3 : Int32) = nI 3 from by decide, zi_sub (by omega)]
    exact nI_nlt (by omega) (by omega)
  unfold LA_law_23b
  simp (decide := true) only [hlt, if_false, g0, zz_gd_t, zz_nm_e, c0, hv, nI_1, e2, g1, g2, c1, c2, ↓reduceIte]
  obtain ⟨k, C1, R1, z1, z2, z3, z4⟩ := zla_u01 (zc_resume h (by omega) (xs (i + 1))) R o
  have z1' : LA_resume_f (xs (i + 1)) (C, R, o) = some (Sum.inl k, (C1, R, o)) := z1
  rw [z1', zz_bt_l]
  dsimp only
  rw [z2, zz_lf_s, zz_bd_s]
  unfold MO_thrown_f
  dsimp only
  rw [zz_lf_s, zz_bd_s, if_pos z3]
  exact ⟨C1, R1, o, rfl, zI_up z4 (by omega)⟩
theorem zlw_8 {L i B : Nat} {xs : Nat → Int32} {C R : zz_S} {o : Int64} (k23 : Int32 → zl_S → Option (Int32 × zl_S)) (h : zI B C R) (hB : B < 2147400000) (hL : L ≤ 1536) (hi : i + 2 < L) (hv : xs i &&& 15 = 8) : ∃ C' R' o', LA_law_23b L xs k23 (nI i) (C, R, o) = k23 (nI i + 3) (C', R', o') ∧ zI (B + 4000) C' R' := by
  have e2 : nI i + 2 = nI (i + 2) := by rw [show (2 : Int32) = nI 2 from by decide, nI_add]
  have g0 : zz_in (nI i) L = true := zi_in (by omega) (by omega)
  have g1 : zz_in (nI (i + 1)) L = true := zi_in (by omega) (by omega)
  have g2 : zz_in (nI (i + 2)) L = true := zi_in (by omega) (by omega)
  have c0 : (nI i).toNatClampNeg = i := nI_clamp (by omega)
  have c1 : (nI (i + 1)).toNatClampNeg = i + 1 := nI_clamp (by omega)
  have c2 : (nI (i + 2)).toNatClampNeg = i + 2 := nI_clamp (by omega)
  have hlt : ¬ Int32.ofNat L - 3 < nI i := by
    rw [show Int32.ofNat L = nI L from rfl, show (3 : Int32) = nI 3 from by decide, zi_sub (by omega)]
    exact nI_nlt (by omega) (by omega)
  unfold LA_law_23b
  simp (decide := true) only [hlt, if_false, g0, zz_gd_t, zz_nm_e, c0, hv, nI_1, e2, g1, g2, c1, c2, ↓reduceIte]
  obtain ⟨k, C1, R1, z1, z2, z3, z4⟩ := zla_u01 (zc_kill h (xs (i + 1))) R o
  have z1' : LA_kill_f (xs (i + 1)) (C, R, o) = some (Sum.inl k, (C1, R, o)) := z1
  rw [z1', zz_bt_l]
  dsimp only
  rw [z2, zz_lf_s, zz_bd_s]
  unfold MO_thrown_f
  dsimp only
  rw [zz_lf_s, zz_bd_s, if_pos z3]
  exact ⟨C1, R1, o, rfl, zI_up z4 (by omega)⟩
theorem zlw_9 {L i B : Nat} {xs : Nat → Int32} {C R : zz_S} {o : Int64} (k23 : Int32 → zl_S → Option (Int32 × zl_S)) (h : zI B C R) (hB : B < 2147400000) (hL : L ≤ 1536) (hi : i + 2 < L) (hv : xs i &&& 15 = 9) : ∃ C' R' o', LA_law_23b L xs k23 (nI i) (C, R, o) = k23 (nI i + 3) (C', R', o') ∧ zI (B + 4000) C' R' := by
  have e2 : nI i + 2 = nI (i + 2) := by rw [show (2 : Int32) = nI 2 from by decide, nI_add]
  have g0 : zz_in (nI i) L = true := zi_in (by omega) (by omega)
  have g1 : zz_in (nI (i + 1)) L = true := zi_in (by omega) (by omega)
  have g2 : zz_in (nI (i + 2)) L = true := zi_in (by omega) (by omega)
  have c0 : (nI i).toNatClampNeg = i := nI_clamp (by omega)
  have c1 : (nI (i + 1)).toNatClampNeg = i + 1 := nI_clamp (by omega)
  have c2 : (nI (i + 2)).toNatClampNeg = i + 2 := nI_clamp (by omega)
  have hlt : ¬ Int32.ofNat L - 3 < nI i := by
    rw [show Int32.ofNat L = nI L from rfl, show (3 : Int32) = nI 3 from by decide, zi_sub (by omega)]
    exact nI_nlt (by omega) (by omega)
  unfold LA_law_23b
  simp (decide := true) only [hlt, if_false, g0, zz_gd_t, zz_nm_e, c0, hv, nI_1, e2, g1, g2, c1, c2, ↓reduceIte]
  obtain ⟨k, C1, R1, o1, b, z1, z2, z3, z4, z5⟩ := zla_v0 (zc_interrupt h (by omega) (xs (i + 1))) R o
  have z1' : LA_interrupt_f (xs (i + 1)) (C, R, o) = some (Sum.inl k, (C1, R, o1)) := z1
  rw [z1', zz_bt_l]
  dsimp only
  rw [z2, zz_lf_s, zz_bd_s]
  unfold MO_thrown_f LA_law_637
  dsimp only
  rw [zz_lf_s, zz_bd_s, if_pos z3]
  by_cases k0 : k = 0
  · rw [if_pos k0, show zz_in (0 : Int32) 1 = true from by decide, zz_gd_t, show lg_cmp (zl_o o1 (0 : Int32).toNatClampNeg) b.toInt64 = 0 from by rw [z5 k0]; exact lg_same _, if_pos rfl]
    exact ⟨C1, R1, o1, rfl, zI_up z4 (by omega)⟩
  · rw [if_neg k0]
    exact ⟨C1, R1, o1, rfl, zI_up z4 (by omega)⟩
theorem zlw_10 {L i B : Nat} {xs : Nat → Int32} {C R : zz_S} {o : Int64} (k23 : Int32 → zl_S → Option (Int32 × zl_S)) (h : zI B C R) (hB : B < 2147400000) (hL : L ≤ 1536) (hi : i + 2 < L) (hv : xs i &&& 15 = 10) : ∃ C' R' o', LA_law_23b L xs k23 (nI i) (C, R, o) = k23 (nI i + 3) (C', R', o') ∧ zI (B + 4000) C' R' := by
  have e2 : nI i + 2 = nI (i + 2) := by rw [show (2 : Int32) = nI 2 from by decide, nI_add]
  have g0 : zz_in (nI i) L = true := zi_in (by omega) (by omega)
  have g1 : zz_in (nI (i + 1)) L = true := zi_in (by omega) (by omega)
  have g2 : zz_in (nI (i + 2)) L = true := zi_in (by omega) (by omega)
  have c0 : (nI i).toNatClampNeg = i := nI_clamp (by omega)
  have c1 : (nI (i + 1)).toNatClampNeg = i + 1 := nI_clamp (by omega)
  have c2 : (nI (i + 2)).toNatClampNeg = i + 2 := nI_clamp (by omega)
  have hlt : ¬ Int32.ofNat L - 3 < nI i := by
    rw [show Int32.ofNat L = nI L from rfl, show (3 : Int32) = nI 3 from by decide, zi_sub (by omega)]
    exact nI_nlt (by omega) (by omega)
  unfold LA_law_23b
  simp (decide := true) only [hlt, if_false, g0, zz_gd_t, zz_nm_e, c0, hv, nI_1, e2, g1, g2, c1, c2, ↓reduceIte]
  obtain ⟨k, C1, R1, o1, b, z1, z2, z3, z4, z5⟩ := zla_v2 (zc_tick h (by omega) (xs (i + 1))) R o
  have z1' : LA_tick_f (xs (i + 1)) (C, R, o) = some (Sum.inl k, (C1, R, o1)) := z1
  rw [z1', zz_bt_l]
  dsimp only
  rw [z2, zz_lf_s, zz_bd_s]
  unfold MO_thrown_f LA_law_693
  dsimp only
  rw [zz_lf_s, zz_bd_s, if_pos z3]
  by_cases k0 : k = 0
  · rw [if_pos k0, show zz_in (0 : Int32) 1 = true from by decide, zz_gd_t, show lg_cmp (zl_o o1 (0 : Int32).toNatClampNeg) b.toInt64 = 0 from by rw [z5 k0]; exact lg_same _, if_pos rfl]
    exact ⟨C1, R1, o1, rfl, zI_up z4 (by omega)⟩
  · rw [if_neg k0]
    exact ⟨C1, R1, o1, rfl, zI_up z4 (by omega)⟩
theorem zlw_11 {L i B : Nat} {xs : Nat → Int32} {C R : zz_S} {o : Int64} (k23 : Int32 → zl_S → Option (Int32 × zl_S)) (h : zI B C R) (hB : B < 2147400000) (hL : L ≤ 1536) (hi : i + 2 < L) (hv : xs i &&& 15 = 11) : ∃ C' R' o', LA_law_23b L xs k23 (nI i) (C, R, o) = k23 (nI i + 3) (C', R', o') ∧ zI (B + 4000) C' R' := by
  have e2 : nI i + 2 = nI (i + 2) := by rw [show (2 : Int32) = nI 2 from by decide, nI_add]
  have g0 : zz_in (nI i) L = true := zi_in (by omega) (by omega)
  have g1 : zz_in (nI (i + 1)) L = true := zi_in (by omega) (by omega)
  have g2 : zz_in (nI (i + 2)) L = true := zi_in (by omega) (by omega)
  have c0 : (nI i).toNatClampNeg = i := nI_clamp (by omega)
  have c1 : (nI (i + 1)).toNatClampNeg = i + 1 := nI_clamp (by omega)
  have c2 : (nI (i + 2)).toNatClampNeg = i + 2 := nI_clamp (by omega)
  have hlt : ¬ Int32.ofNat L - 3 < nI i := by
    rw [show Int32.ofNat L = nI L from rfl, show (3 : Int32) = nI 3 from by decide, zi_sub (by omega)]
    exact nI_nlt (by omega) (by omega)
  unfold LA_law_23b
  simp (decide := true) only [hlt, if_false, g0, zz_gd_t, zz_nm_e, c0, hv, nI_1, e2, g1, g2, c1, c2, ↓reduceIte]
  obtain ⟨a, C1, b, R1, z1, z2, z3, rfl⟩ := zc_running h
  rw [z1, zz_lf_s, zz_bd_s]
  dsimp only
  rw [z2, zz_lf_s, zz_bd_s, if_pos rfl]
  exact ⟨C1, R1, o, rfl, zI_up z3 (by omega)⟩
theorem zlw_12 {L i B : Nat} {xs : Nat → Int32} {C R : zz_S} {o : Int64} (k23 : Int32 → zl_S → Option (Int32 × zl_S)) (h : zI B C R) (hB : B < 2147400000) (hL : L ≤ 1536) (hi : i + 2 < L) (hv : xs i &&& 15 = 12) : ∃ C' R' o', LA_law_23b L xs k23 (nI i) (C, R, o) = k23 (nI i + 3) (C', R', o') ∧ zI (B + 4000) C' R' := by
  have e2 : nI i + 2 = nI (i + 2) := by rw [show (2 : Int32) = nI 2 from by decide, nI_add]
  have g0 : zz_in (nI i) L = true := zi_in (by omega) (by omega)
  have g1 : zz_in (nI (i + 1)) L = true := zi_in (by omega) (by omega)
  have g2 : zz_in (nI (i + 2)) L = true := zi_in (by omega) (by omega)
  have c0 : (nI i).toNatClampNeg = i := nI_clamp (by omega)
  have c1 : (nI (i + 1)).toNatClampNeg = i + 1 := nI_clamp (by omega)
  have c2 : (nI (i + 2)).toNatClampNeg = i + 2 := nI_clamp (by omega)
  have hlt : ¬ Int32.ofNat L - 3 < nI i := by
    rw [show Int32.ofNat L = nI L from rfl, show (3 : Int32) = nI 3 from by decide, zi_sub (by omega)]
    exact nI_nlt (by omega) (by omega)
  unfold LA_law_23b
  simp (decide := true) only [hlt, if_false, g0, zz_gd_t, zz_nm_e, c0, hv, nI_1, e2, g1, g2, c1, c2, ↓reduceIte]
  obtain ⟨a, C1, b, R1, z1, z2, z3, rfl⟩ := zc_process h (xs (i + 1)) (xs (i + 2))
  rw [z1, zz_lf_s, zz_bd_s]
  dsimp only
  rw [z2, zz_lf_s, zz_bd_s, if_pos rfl]
  exact ⟨C1, R1, o, rfl, zI_up z3 (by omega)⟩
theorem zlw_13 {L i B : Nat} {xs : Nat → Int32} {C R : zz_S} {o : Int64} (k23 : Int32 → zl_S → Option (Int32 × zl_S)) (h : zI B C R) (hB : B < 2147400000) (hL : L ≤ 1536) (hi : i + 2 < L) (hv : xs i &&& 15 = 13) : ∃ C' R' o', LA_law_23b L xs k23 (nI i) (C, R, o) = k23 (nI i + 3) (C', R', o') ∧ zI (B + 4000) C' R' := by
  have e2 : nI i + 2 = nI (i + 2) := by rw [show (2 : Int32) = nI 2 from by decide, nI_add]
  have g0 : zz_in (nI i) L = true := zi_in (by omega) (by omega)
  have g1 : zz_in (nI (i + 1)) L = true := zi_in (by omega) (by omega)
  have g2 : zz_in (nI (i + 2)) L = true := zi_in (by omega) (by omega)
  have c0 : (nI i).toNatClampNeg = i := nI_clamp (by omega)
  have c1 : (nI (i + 1)).toNatClampNeg = i + 1 := nI_clamp (by omega)
  have c2 : (nI (i + 2)).toNatClampNeg = i + 2 := nI_clamp (by omega)
  have hlt : ¬ Int32.ofNat L - 3 < nI i := by
    rw [show Int32.ofNat L = nI L from rfl, show (3 : Int32) = nI 3 from by decide, zi_sub (by omega)]
    exact nI_nlt (by omega) (by omega)
  unfold LA_law_23b
  simp (decide := true) only [hlt, if_false, g0, zz_gd_t, zz_nm_e, c0, hv, nI_1, e2, g1, g2, c1, c2, ↓reduceIte]
  obtain ⟨a, C1, b, R1, z1, z2, z3, rfl⟩ := zc_stack h (xs (i + 1)) (xs (i + 2))
  rw [z1, zz_lf_s, zz_bd_s]
  dsimp only
  rw [z2, zz_lf_s, zz_bd_s, if_pos rfl]
  exact ⟨C1, R1, o, rfl, zI_up z3 (by omega)⟩
theorem zlw_14 {L i B : Nat} {xs : Nat → Int32} {C R : zz_S} {o : Int64} (k23 : Int32 → zl_S → Option (Int32 × zl_S)) (h : zI B C R) (hB : B < 2147400000) (hL : L ≤ 1536) (hi : i + 2 < L) (hv : xs i &&& 15 = 14) : ∃ C' R' o', LA_law_23b L xs k23 (nI i) (C, R, o) = k23 (nI i + 3) (C', R', o') ∧ zI (B + 4000) C' R' := by
  have e2 : nI i + 2 = nI (i + 2) := by rw [show (2 : Int32) = nI 2 from by decide, nI_add]
  have g0 : zz_in (nI i) L = true := zi_in (by omega) (by omega)
  have g1 : zz_in (nI (i + 1)) L = true := zi_in (by omega) (by omega)
  have g2 : zz_in (nI (i + 2)) L = true := zi_in (by omega) (by omega)
  have c0 : (nI i).toNatClampNeg = i := nI_clamp (by omega)
  have c1 : (nI (i + 1)).toNatClampNeg = i + 1 := nI_clamp (by omega)
  have c2 : (nI (i + 2)).toNatClampNeg = i + 2 := nI_clamp (by omega)
  have hlt : ¬ Int32.ofNat L - 3 < nI i := by
    rw [show Int32.ofNat L = nI L from rfl, show (3 : Int32) = nI 3 from by decide, zi_sub (by omega)]
    exact nI_nlt (by omega) (by omega)
  unfold LA_law_23b
  simp (decide := true) only [hlt, if_false, g0, zz_gd_t, zz_nm_e, c0, hv, nI_1, e2, g1, g2, c1, c2, ↓reduceIte]
  obtain ⟨a, C1, b, R1, z1, z2, z3, rfl⟩ := zc_page h (xs (i + 1)) (xs (i + 2))
  rw [z1, zz_lf_s, zz_bd_s]
  dsimp only
  rw [z2, zz_lf_s, zz_bd_s, if_pos rfl]
  exact ⟨C1, R1, o, rfl, zI_up z3 (by omega)⟩
theorem zlw_15 {L i B : Nat} {xs : Nat → Int32} {C R : zz_S} {o : Int64} (k23 : Int32 → zl_S → Option (Int32 × zl_S)) (h : zI B C R) (hB : B < 2147400000) (hL : L ≤ 1536) (hi : i + 2 < L) (hv : xs i &&& 15 = 15) : ∃ C' R' o', LA_law_23b L xs k23 (nI i) (C, R, o) = k23 (nI i + 3) (C', R', o') ∧ zI (B + 4000) C' R' := by
  have e2 : nI i + 2 = nI (i + 2) := by rw [show (2 : Int32) = nI 2 from by decide, nI_add]
  have g0 : zz_in (nI i) L = true := zi_in (by omega) (by omega)
  have g1 : zz_in (nI (i + 1)) L = true := zi_in (by omega) (by omega)
  have g2 : zz_in (nI (i + 2)) L = true := zi_in (by omega) (by omega)
  have c0 : (nI i).toNatClampNeg = i := nI_clamp (by omega)
  have c1 : (nI (i + 1)).toNatClampNeg = i + 1 := nI_clamp (by omega)
  have c2 : (nI (i + 2)).toNatClampNeg = i + 2 := nI_clamp (by omega)
  have hlt : ¬ Int32.ofNat L - 3 < nI i := by
    rw [show Int32.ofNat L = nI L from rfl, show (3 : Int32) = nI 3 from by decide, zi_sub (by omega)]
    exact nI_nlt (by omega) (by omega)
  unfold LA_law_23b
  simp (decide := true) only [hlt, if_false, g0, zz_gd_t, zz_nm_e, c0, hv, nI_1, e2, g1, g2, c1, c2, ↓reduceIte]
  obtain ⟨a, C1, b, R1, z1, z2, z3, rfl⟩ := zc_free h (xs (i + 1))
  rw [z1, zz_lf_s, zz_bd_s]
  dsimp only
  rw [z2, zz_lf_s, zz_bd_s, if_pos rfl]
  exact ⟨C1, R1, o, rfl, zI_up z3 (by omega)⟩
theorem zlw_all {L i B : Nat} {xs : Nat → Int32} {C R : zz_S} {o : Int64} (k23 : Int32 → zl_S → Option (Int32 × zl_S)) (h : zI B C R) (hB : B < 2147400000) (hL : L ≤ 1536) (hi : i + 2 < L) : ∃ C' R' o', LA_law_23b L xs k23 (nI i) (C, R, o) = k23 (nI i + 3) (C', R', o') ∧ zI (B + 4000) C' R' := by
  obtain ⟨a, ha, ea⟩ : ∃ a, a < 16 ∧ xs i &&& 15 = nI a := by
    obtain ⟨n, hn, en⟩ := zi_ex (xs i)
    exact ⟨n % 16, Nat.mod_lt _ (by decide), by rw [en, zi_15]⟩
  have : a = 0 ∨ a = 1 ∨ a = 2 ∨ a = 3 ∨ a = 4 ∨ a = 5 ∨ a = 6 ∨ a = 7 ∨ a = 8 ∨ a = 9 ∨ a = 10 ∨ a = 11 ∨ a = 12 ∨ a = 13 ∨ a = 14 ∨ a = 15 := by omega
  rcases this with rfl | rfl | rfl | rfl | rfl | rfl | rfl | rfl | rfl | rfl | rfl | rfl | rfl | rfl | rfl | rfl
  · exact zlw_0 k23 h hB hL hi ea
  · exact zlw_1 k23 h hB hL hi ea
  · exact zlw_2 k23 h hB hL hi ea
  · exact zlw_3 k23 h hB hL hi ea
  · exact zlw_4 k23 h hB hL hi ea
  · exact zlw_5 k23 h hB hL hi ea
  · exact zlw_6 k23 h hB hL hi ea
  · exact zlw_7 k23 h hB hL hi ea
  · exact zlw_8 k23 h hB hL hi ea
  · exact zlw_9 k23 h hB hL hi ea
  · exact zlw_10 k23 h hB hL hi ea
  · exact zlw_11 k23 h hB hL hi ea
  · exact zlw_12 k23 h hB hL hi ea
  · exact zlw_13 k23 h hB hL hi ea
  · exact zlw_14 k23 h hB hL hi ea
  · exact zlw_15 k23 h hB hL hi ea
theorem zlaw {L : Nat} {xs : Nat → Int32} (hL : L ≤ 1536) : ∀ (k n j B : Nat) (C R : zz_S) (o : Int64), j + k = L / 3 → zI B C R → B + 4000 * k < 2147400000 → ∃ st, LA_law_23 L xs (n + k + 1) (nI (3 * j)) (C, R, o) = some (1, st) := by
  intro k
  induction k with
  | zero =>
    intro n j B C R o hj h hB
    show ∃ st, LA_law_23b L xs (LA_law_23 L xs (n + 0)) (nI (3 * j)) (C, R, o) = some (1, st)
    unfold LA_law_23b
    have hlt : Int32.ofNat L - 3 < nI (3 * j) := by
      rw [Int32.lt_iff_toInt_lt, Int32.toInt_sub, show Int32.ofNat L = nI L from rfl, nI_toInt (by omega), nI_toInt (by omega), show (3 : Int32).toInt = 3 from by decide]
      rw [show ((L : Int) - 3).bmod (2 ^ 32) = (L : Int) - 3 from by apply Int.bmod_eq_of_le <;> omega]
      omega
    rw [if_pos hlt]
    exact ⟨_, rfl⟩
  | succ k ih =>
    intro n j B C R o hj h hB
    show ∃ st, LA_law_23b L xs (LA_law_23 L xs (n + k + 1)) (nI (3 * j)) (C, R, o) = some (1, st)
    obtain ⟨C', R', o', e, h'⟩ := zlw_all (i := 3 * j) (xs := xs) (o := o) (LA_law_23 L xs (n + k + 1)) h (by omega) hL (by omega)
    rw [e, show nI (3 * j) + 3 = nI (3 * (j + 1)) from by rw [show (3 : Int32) = nI 3 from by decide, nI_add]; rfl]
    exact ih n (j + 1) (B + 4000) C' R' o' (by omega) h' (by omega)
theorem zlaw0 {L : Nat} {xs : Nat → Int32} (hL : L ≤ 1536) {C R : zz_S} {o : Int64} (h : zI 0 C R) : ∃ st, LA_law_23 L xs 513 0 (C, R, o) = some (1, st) := by
  have := zlaw (xs := xs) hL (L / 3) (512 - L / 3) 0 0 C R o (by omega) h (by omega)
  rw [show 512 - L / 3 + L / 3 + 1 = 513 from by omega] at this
  exact this
