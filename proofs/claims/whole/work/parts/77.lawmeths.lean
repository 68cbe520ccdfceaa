theorem zx_csW {σ : Type} {V : zz_V σ} {E : zz_E} {mc ms : Nat} (h : zz_XW V E mc ms) : zz_cs E (0 + mc) (0 + ms) := by
  obtain ⟨l, D, cl, tys, sf, as, w⟩ := V
  obtain ⟨p, e, R, s, m, args, below, meth, c, A, mc0, ms0⟩ := E
  obtain ⟨-, -, -, -, h1, h2⟩ := h
  rw [Nat.zero_add, Nat.zero_add]
  exact ⟨h1, h2⟩
theorem zx_nwW {σ : Type} {V : zz_V σ} {E : zz_E} {mc ms : Nat} (h : zz_XW V E mc ms) : ∀ q, E.2.2.2.1.heap.size ≤ q → E.2.2.2.2.2.2.2.2.2.1 q := by
  obtain ⟨l, D, cl, tys, sf, as, w⟩ := V
  obtain ⟨p, e, R, s, m, args, below, meth, c, A, mc0, ms0⟩ := E
  exact h.2.1
theorem zl_ost {l : Launch} {D : va_G} {aC aM : Nat → Nat} {aO : Nat} {cC cM : Nat → ClassId} {cO : ClassId} {tb : Nat} (st : zl_S) (x : Int64) : (zz_w (zl_V l D aC aM aO cC cM cO tb) st).set 45 (aO, .inl (cO, 1, .inr (.inl (vp_updL (zl_o st.2.2) (0 : Int32).toNatClampNeg x)))) = zz_w (zl_V l D aC aM aO cC cM cO tb) ((st.1, st.2.1, x) : zl_S) := by
  rw [show (0 : Int32).toNatClampNeg = 0 from by decide, zl_o_put]
  rfl
def LA_map_f (x1 x2 : Int32) (st : zl_S) : Option ((Int32 ⊕ Nat) × zl_S) := zz_bt (zz_lf (fun s => ((s, st.2) : zl_S)) (FP_map_f x1 x2 st.1)) (fun _ s1 => some (Sum.inl 0, s1)) (fun i s1 => if i = 0 then some (Sum.inl 1, s1) else none)
set_option maxRecDepth 100000 in
set_option maxHeartbeats 4000000 in
theorem LA_map_w {l : Launch} {D : va_G} {aC aM : Nat → Nat} {aO : Nat} {cC cM : Nat → ClassId} {cO : ClassId} {tb : Nat} {E : zz_E} (hap : ∀ st, va_D (zl_as aC aM aO) (zl_w aC aM aO cC cM cO st)) (hVc : zz_ok (zc_V l D aC cC tb)) (htr : l.stackTraces = false) (h : zz_X (zl_V l D aC aM aO cC cM cO tb) E "FrameProcessorLaw" method_3_code 4 zt_T 7 103 (some .int)) (hW : zz_XW (zl_V l D aC aM aO cC cM cO tb) E 1 6) (hh : zz_hd E [(0, 6, 9, 13)]) (x1 x2 : Int32) (st : zl_S) : zz_Z (zl_V l D aC aM aO cC cM cO tb) E 4 0 0 (zz_t (zl_V l D aC aM aO cC cM cO tb) E zz_ji zx_c) (LA_map_f x1 x2 st) 0 [(0, .ref (aC 0)), (1, .int x1), (2, .int x2)] [] st := by
  unfold LA_map_f
  refine zz_aload_n h dLA_map_0 rfl ?_
  refine zz_iload_n h dLA_map_1 rfl ?_
  refine zz_iload_n h dLA_map_2 rfl ?_
  refine zg_callT h (zx_csW hW) (q0 := 0) (As := [.int x1, .int x2]) (rest := []) rfl rfl (zl_CT hap st (FP_map_c hVc htr x1 x2 st.1)) FP_map_k zm_LA_7 rfl rfl ⟨Nat.le_of_ble_eq_true rfl, Nat.le_of_ble_eq_true rfl⟩ rfl rfl (Nat.le_of_ble_eq_true rfl) dLA_map_3 (zx_nwW hW) (fun i => if i = 0 then 9 else 0) (fun i s1 o hg => ?_) (fun r s1 => ?_) (fun i s1 x => ?_)
  · by_cases h0 : i = 0
    · subst h0
      exact zx_ct1 h hh (by decide) (by decide) (by decide) zk_LA_13 (fun U hU => hU.2.2.2.2.1 _ (by decide +kernel))
    · rw [if_neg h0] at hg; cases hg
  · refine zz_goto h 12 dLA_map_6 rfl ?_
    refine zz_iconst (v := 0) h dLA_map_12 zz_li_0 ?_
    exact zw_iret h hW (Nat.le_refl _) (Nat.le_refl _) dLA_map_13
  · by_cases h0 : i = 0
    · subst h0
      show zz_Z (zl_V l D aC aM aO cC cM cO tb) E 4 (0 + 1) (0 + 6) (zz_t (zl_V l D aC aM aO cC cM cO tb) E zz_ji zx_c) (some (Sum.inl 1, s1)) 9 [(0, .ref (aC 0)), (1, .int x1), (2, .int x2)] [.ref x] s1
      refine zz_astore_n h dLA_map_9 (Nat.le_of_ble_eq_true rfl) ?_
      refine zz_iconst (v := 1) h dLA_map_10 zz_li_1 ?_
      exact zw_iret h hW (Nat.le_refl _) (Nat.le_refl _) dLA_map_11
    · rw [if_neg h0]; exact zz_none
theorem LA_map_c {l : Launch} {D : va_G} {aC aM : Nat → Nat} {aO : Nat} {cC cM : Nat → ClassId} {cO : ClassId} {tb : Nat} (hap : ∀ st, va_D (zl_as aC aM aO) (zl_w aC aM aO cC cM cO st)) (hVc : zz_ok (zc_V l D aC cC tb)) (htr : l.stackTraces = false) (x1 x2 : Int32) (st : zl_S) : zz_CT (zl_V l D aC aM aO cC cM cO tb) yLA_map (Cond.codeWith yLA_map method_3_code 4 (some .int) [(0, 6, 9, 13)] :: zt_T) { frames := 7, cells := 1, slots := 6, locals := 103 } 1 6 zz_ji zx_c [.ref (aC 0), .int x1, .int x2] st (LA_map_f x1 x2 st) := zz_metW (zl_ok hap) htr (by decide +kernel) rfl (Nat.le_of_ble_eq_true rfl) rfl (fun E h hW hh => LA_map_w hap hVc htr h hW hh x1 x2 st)
def LA_protect_f (x1 x2 : Int32) (st : zl_S) : Option ((Int32 ⊕ Nat) × zl_S) := zz_bt (zz_lf (fun s => ((s, st.2) : zl_S)) (FP_protect_f x1 x2 st.1)) (fun _ s1 => some (Sum.inl 0, s1)) (fun i s1 => if i = 0 then some (Sum.inl 1, s1) else none)
set_option maxRecDepth 100000 in
set_option maxHeartbeats 4000000 in
theorem LA_protect_w {l : Launch} {D : va_G} {aC aM : Nat → Nat} {aO : Nat} {cC cM : Nat → ClassId} {cO : ClassId} {tb : Nat} {E : zz_E} (hap : ∀ st, va_D (zl_as aC aM aO) (zl_w aC aM aO cC cM cO st)) (hVc : zz_ok (zc_V l D aC cC tb)) (htr : l.stackTraces = false) (h : zz_X (zl_V l D aC aM aO cC cM cO tb) E "FrameProcessorLaw" method_4_code 4 zt_T 7 103 (some .int)) (hW : zz_XW (zl_V l D aC aM aO cC cM cO tb) E 1 6) (hh : zz_hd E [(0, 6, 9, 13)]) (x1 x2 : Int32) (st : zl_S) : zz_Z (zl_V l D aC aM aO cC cM cO tb) E 4 0 0 (zz_t (zl_V l D aC aM aO cC cM cO tb) E zz_ji zx_c) (LA_protect_f x1 x2 st) 0 [(0, .ref (aC 0)), (1, .int x1), (2, .int x2)] [] st := by
  unfold LA_protect_f
  refine zz_aload_n h dLA_protect_0 rfl ?_
  refine zz_iload_n h dLA_protect_1 rfl ?_
  refine zz_iload_n h dLA_protect_2 rfl ?_
  refine zg_callT h (zx_csW hW) (q0 := 0) (As := [.int x1, .int x2]) (rest := []) rfl rfl (zl_CT hap st (FP_protect_c hVc htr x1 x2 st.1)) FP_protect_k zm_LA_15 rfl rfl ⟨Nat.le_of_ble_eq_true rfl, Nat.le_of_ble_eq_true rfl⟩ rfl rfl (Nat.le_of_ble_eq_true rfl) dLA_protect_3 (zx_nwW hW) (fun i => if i = 0 then 9 else 0) (fun i s1 o hg => ?_) (fun r s1 => ?_) (fun i s1 x => ?_)
  · by_cases h0 : i = 0
    · subst h0
      exact zx_ct1 h hh (by decide) (by decide) (by decide) zk_LA_13 (fun U hU => hU.2.2.2.2.1 _ (by decide +kernel))
    · rw [if_neg h0] at hg; cases hg
  · refine zz_goto h 12 dLA_protect_6 rfl ?_
    refine zz_iconst (v := 0) h dLA_protect_12 zz_li_0 ?_
    exact zw_iret h hW (Nat.le_refl _) (Nat.le_refl _) dLA_protect_13
  · by_cases h0 : i = 0
    · subst h0
      show zz_Z (zl_V l D aC aM aO cC cM cO tb) E 4 (0 + 1) (0 + 6) (zz_t (zl_V l D aC aM aO cC cM cO tb) E zz_ji zx_c) (some (Sum.inl 1, s1)) 9 [(0, .ref (aC 0)), (1, .int x1), (2, .int x2)] [.ref x] s1
      refine zz_astore_n h dLA_protect_9 (Nat.le_of_ble_eq_true rfl) ?_
      refine zz_iconst (v := 1) h dLA_protect_10 zz_li_1 ?_
      exact zw_iret h hW (Nat.le_refl _) (Nat.le_refl _) dLA_protect_11
    · rw [if_neg h0]; exact zz_none
theorem LA_protect_c {l : Launch} {D : va_G} {aC aM : Nat → Nat} {aO : Nat} {cC cM : Nat → ClassId} {cO : ClassId} {tb : Nat} (hap : ∀ st, va_D (zl_as aC aM aO) (zl_w aC aM aO cC cM cO st)) (hVc : zz_ok (zc_V l D aC cC tb)) (htr : l.stackTraces = false) (x1 x2 : Int32) (st : zl_S) : zz_CT (zl_V l D aC aM aO cC cM cO tb) yLA_protect (Cond.codeWith yLA_protect method_4_code 4 (some .int) [(0, 6, 9, 13)] :: zt_T) { frames := 7, cells := 1, slots := 6, locals := 103 } 1 6 zz_ji zx_c [.ref (aC 0), .int x1, .int x2] st (LA_protect_f x1 x2 st) := zz_metW (zl_ok hap) htr (by decide +kernel) rfl (Nat.le_of_ble_eq_true rfl) rfl (fun E h hW hh => LA_protect_w hap hVc htr h hW hh x1 x2 st)
def LA_noted_f (x1 : Int32) (st : zl_S) : Option ((Int32 ⊕ Nat) × zl_S) := zz_bt (zz_lf (fun s => ((s, st.2) : zl_S)) (FP_noted_f x1 st.1)) (fun r s1 => zz_gd (zz_in 0 1) (some (Sum.inl 0, ((s1.1, s1.2.1, r.toInt64) : zl_S)))) (fun i s1 => if i = 0 then some (Sum.inl 1, s1) else none)
set_option maxRecDepth 100000 in
set_option maxHeartbeats 4000000 in
theorem LA_noted_w {l : Launch} {D : va_G} {aC aM : Nat → Nat} {aO : Nat} {cC cM : Nat → ClassId} {cO : ClassId} {tb : Nat} {E : zz_E} (hap : ∀ st, va_D (zl_as aC aM aO) (zl_w aC aM aO cC cM cO st)) (hVc : zz_ok (zc_V l D aC cC tb)) (htr : l.stackTraces = false) (h : zz_X (zl_V l D aC aM aO cC cM cO tb) E "FrameProcessorLaw" method_5_code 4 zt_T 7 102 (some .int)) (hW : zz_XW (zl_V l D aC aM aO cC cM cO tb) E 1 6) (hh : zz_hd E [(0, 9, 12, 13)]) (x1 : Int32) (st : zl_S) : zz_Z (zl_V l D aC aM aO cC cM cO tb) E 4 0 0 (zz_t (zl_V l D aC aM aO cC cM cO tb) E zz_ji zx_c) (LA_noted_f x1 st) 0 [(0, .ref (aC 0)), (1, .int x1), (2, .ref aO)] [] st := by
  unfold LA_noted_f
  refine zz_aload_n h dLA_noted_0 rfl ?_
  refine zz_iconst (v := 0) h dLA_noted_1 zz_li_0 ?_
  refine zz_aload_n h dLA_noted_2 rfl ?_
  refine zz_iload_n h dLA_noted_3 rfl ?_
  refine zg_callT h (zx_csW hW) (q0 := 0) (As := [.int x1]) (rest := [.int 0, .ref aO]) rfl rfl (zl_CT hap st (FP_noted_c hVc htr x1 st.1)) FP_noted_k zm_LA_19 rfl rfl ⟨Nat.le_of_ble_eq_true rfl, Nat.le_of_ble_eq_true rfl⟩ rfl rfl (Nat.le_of_ble_eq_true rfl) dLA_noted_4 (zx_nwW hW) (fun i => if i = 0 then 12 else 0) (fun i s1 o hg => ?_) (fun r s1 => ?_) (fun i s1 x => ?_)
  · by_cases h0 : i = 0
    · subst h0
      exact zx_ct1 h hh (by decide) (by decide) (by decide) zk_LA_13 (fun U hU => hU.2.2.2.2.1 _ (by decide +kernel))
    · rw [if_neg h0] at hg; cases hg
  · refine zz_i2l h dLA_noted_7 ?_
    refine zz_last h 45 6 rfl rfl (st' := ((s1.1, s1.2.1, r.toInt64) : zl_S)) (fun _ => zl_ost s1 _) dLA_noted_8 ?_
    refine zz_goto h 15 dLA_noted_9 rfl ?_
    refine zz_iconst (v := 0) h dLA_noted_15 zz_li_0 ?_
    exact zw_iret h hW (Nat.le_refl _) (Nat.le_refl _) dLA_noted_16
  · by_cases h0 : i = 0
    · subst h0
      show zz_Z (zl_V l D aC aM aO cC cM cO tb) E 4 (0 + 1) (0 + 6) (zz_t (zl_V l D aC aM aO cC cM cO tb) E zz_ji zx_c) (some (Sum.inl 1, s1)) 12 [(0, .ref (aC 0)), (1, .int x1), (2, .ref aO)] [.ref x] s1
      refine zz_astore_n h dLA_noted_12 (Nat.le_of_ble_eq_true rfl) ?_
      refine zz_iconst (v := 1) h dLA_noted_13 zz_li_1 ?_
      exact zw_iret h hW (Nat.le_refl _) (Nat.le_refl _) dLA_noted_14
    · rw [if_neg h0]; exact zz_none
theorem LA_noted_c {l : Launch} {D : va_G} {aC aM : Nat → Nat} {aO : Nat} {cC cM : Nat → ClassId} {cO : ClassId} {tb : Nat} (hap : ∀ st, va_D (zl_as aC aM aO) (zl_w aC aM aO cC cM cO st)) (hVc : zz_ok (zc_V l D aC cC tb)) (htr : l.stackTraces = false) (x1 : Int32) (st : zl_S) : zz_CT (zl_V l D aC aM aO cC cM cO tb) yLA_noted (Cond.codeWith yLA_noted method_5_code 4 (some .int) [(0, 9, 12, 13)] :: zt_T) { frames := 7, cells := 1, slots := 6, locals := 102 } 1 6 zz_ji zx_c [.ref (aC 0), .int x1, .ref aO] st (LA_noted_f x1 st) := zz_metW (zl_ok hap) htr (by decide +kernel) rfl (Nat.le_of_ble_eq_true rfl) rfl (fun E h hW hh => LA_noted_w hap hVc htr h hW hh x1 st)
def LA_poke_f (x1 x2 : Int32) (st : zl_S) : Option ((Int32 ⊕ Nat) × zl_S) := zz_bt (zz_lf (fun s => ((s, st.2) : zl_S)) (FP_poke_f x1 x2 st.1)) (fun _ s1 => some (Sum.inl 0, s1)) (fun i s1 => if i = 0 then some (Sum.inl 1, s1) else if i = 1 then some (Sum.inl 2, s1) else none)
set_option maxRecDepth 100000 in
set_option maxHeartbeats 4000000 in
theorem LA_poke_w {l : Launch} {D : va_G} {aC aM : Nat → Nat} {aO : Nat} {cC cM : Nat → ClassId} {cO : ClassId} {tb : Nat} {E : zz_E} (hap : ∀ st, va_D (zl_as aC aM aO) (zl_w aC aM aO cC cM cO st)) (hVc : zz_ok (zc_V l D aC cC tb)) (htr : l.stackTraces = false) (h : zz_X (zl_V l D aC aM aO cC cM cO tb) E "FrameProcessorLaw" method_6_code 4 zt_T 7 103 (some .int)) (hW : zz_XW (zl_V l D aC aM aO cC cM cO tb) E 1 6) (hh : zz_hd E [(0, 6, 9, 13), (0, 6, 12, 26)]) (x1 x2 : Int32) (st : zl_S) : zz_Z (zl_V l D aC aM aO cC cM cO tb) E 4 0 0 (zz_t (zl_V l D aC aM aO cC cM cO tb) E zz_ji zx_c) (LA_poke_f x1 x2 st) 0 [(0, .ref (aC 0)), (1, .int x1), (2, .int x2)] [] st := by
  unfold LA_poke_f
  refine zz_aload_n h dLA_poke_0 rfl ?_
  refine zz_iload_n h dLA_poke_1 rfl ?_
  refine zz_iload_n h dLA_poke_2 rfl ?_
  refine zg_callT h (zx_csW hW) (q0 := 0) (As := [.int x1, .int x2]) (rest := []) rfl rfl (zl_CT hap st (FP_poke_c hVc htr x1 x2 st.1)) FP_poke_k zm_LA_23 rfl rfl ⟨Nat.le_of_ble_eq_true rfl, Nat.le_of_ble_eq_true rfl⟩ rfl rfl (Nat.le_of_ble_eq_true rfl) dLA_poke_3 (zx_nwW hW) (fun i => if i = 0 then 9 else if i = 1 then 12 else 0) (fun i s1 o hg => ?_) (fun r s1 => ?_) (fun i s1 x => ?_)
  · by_cases h0 : i = 0
    · subst h0
      exact zx_ct1 h hh (by decide) (by decide) (by decide) zk_LA_13 (fun U hU => hU.2.2.2.2.1 _ (by decide +kernel))
    · rw [if_neg h0] at hg
      by_cases h1 : i = 1
      · subst h1
        exact zx_ct2 (n1 := 0) h hh (by decide) (by decide) (by decide) zk_LA_13 (fun U hU => hU.2.2.2.2.2) (by decide) (by decide) (by decide) zk_LA_26 (fun U hU => hU.2.2.2.2.1 _ (by decide +kernel))
      · rw [if_neg h1] at hg; cases hg
  · refine zz_goto h 15 dLA_poke_6 rfl ?_
    refine zz_iconst (v := 0) h dLA_poke_15 zz_li_0 ?_
    exact zw_iret h hW (Nat.le_refl _) (Nat.le_refl _) dLA_poke_16
  · by_cases h0 : i = 0
    · subst h0
      show zz_Z (zl_V l D aC aM aO cC cM cO tb) E 4 (0 + 1) (0 + 6) (zz_t (zl_V l D aC aM aO cC cM cO tb) E zz_ji zx_c) (some (Sum.inl 1, s1)) 9 [(0, .ref (aC 0)), (1, .int x1), (2, .int x2)] [.ref x] s1
      refine zz_astore_n h dLA_poke_9 (Nat.le_of_ble_eq_true rfl) ?_
      refine zz_iconst (v := 1) h dLA_poke_10 zz_li_1 ?_
      exact zw_iret h hW (Nat.le_refl _) (Nat.le_refl _) dLA_poke_11
    · by_cases h1 : i = 1
      · subst h1
        show zz_Z (zl_V l D aC aM aO cC cM cO tb) E 4 (0 + 1) (0 + 6) (zz_t (zl_V l D aC aM aO cC cM cO tb) E zz_ji zx_c) (some (Sum.inl 2, s1)) 12 [(0, .ref (aC 0)), (1, .int x1), (2, .int x2)] [.ref x] s1
        refine zz_astore_n h dLA_poke_12 (Nat.le_of_ble_eq_true rfl) ?_
        refine zz_iconst (v := 2) h dLA_poke_13 zz_li_2 ?_
        exact zw_iret h hW (Nat.le_refl _) (Nat.le_refl _) dLA_poke_14
      · rw [if_neg h0, if_neg h1]; exact zz_none
theorem LA_poke_c {l : Launch} {D : va_G} {aC aM : Nat → Nat} {aO : Nat} {cC cM : Nat → ClassId} {cO : ClassId} {tb : Nat} (hap : ∀ st, va_D (zl_as aC aM aO) (zl_w aC aM aO cC cM cO st)) (hVc : zz_ok (zc_V l D aC cC tb)) (htr : l.stackTraces = false) (x1 x2 : Int32) (st : zl_S) : zz_CT (zl_V l D aC aM aO cC cM cO tb) yLA_poke (Cond.codeWith yLA_poke method_6_code 4 (some .int) [(0, 6, 9, 13), (0, 6, 12, 26)] :: zt_T) { frames := 7, cells := 1, slots := 6, locals := 103 } 1 6 zz_ji zx_c [.ref (aC 0), .int x1, .int x2] st (LA_poke_f x1 x2 st) := zz_metW (zl_ok hap) htr (by decide +kernel) rfl (Nat.le_of_ble_eq_true rfl) rfl (fun E h hW hh => LA_poke_w hap hVc htr h hW hh x1 x2 st)
def LA_peek_f (x1 : Int32) (st : zl_S) : Option ((Int32 ⊕ Nat) × zl_S) := zz_bt (zz_lf (fun s => ((s, st.2) : zl_S)) (FP_peek_f x1 st.1)) (fun r s1 => zz_gd (zz_in 0 1) (some (Sum.inl 0, ((s1.1, s1.2.1, r.toInt64) : zl_S)))) (fun i s1 => if i = 0 then some (Sum.inl 1, s1) else if i = 1 then some (Sum.inl 2, s1) else none)
set_option maxRecDepth 100000 in
set_option maxHeartbeats 4000000 in
theorem LA_peek_w {l : Launch} {D : va_G} {aC aM : Nat → Nat} {aO : Nat} {cC cM : Nat → ClassId} {cO : ClassId} {tb : Nat} {E : zz_E} (hap : ∀ st, va_D (zl_as aC aM aO) (zl_w aC aM aO cC cM cO st)) (hVc : zz_ok (zc_V l D aC cC tb)) (htr : l.stackTraces = false) (h : zz_X (zl_V l D aC aM aO cC cM cO tb) E "FrameProcessorLaw" method_7_code 4 zt_T 7 102 (some .int)) (hW : zz_XW (zl_V l D aC aM aO cC cM cO tb) E 1 6) (hh : zz_hd E [(0, 9, 12, 13), (0, 9, 15, 26)]) (x1 : Int32) (st : zl_S) : zz_Z (zl_V l D aC aM aO cC cM cO tb) E 4 0 0 (zz_t (zl_V l D aC aM aO cC cM cO tb) E zz_ji zx_c) (LA_peek_f x1 st) 0 [(0, .ref (aC 0)), (1, .int x1), (2, .ref aO)] [] st := by
  unfold LA_peek_f
  refine zz_aload_n h dLA_peek_0 rfl ?_
  refine zz_iconst (v := 0) h dLA_peek_1 zz_li_0 ?_
  refine zz_aload_n h dLA_peek_2 rfl ?_
  refine zz_iload_n h dLA_peek_3 rfl ?_
  refine zg_callT h (zx_csW hW) (q0 := 0) (As := [.int x1]) (rest := [.int 0, .ref aO]) rfl rfl (zl_CT hap st (FP_peek_c hVc htr x1 st.1)) FP_peek_k zm_LA_28 rfl rfl ⟨Nat.le_of_ble_eq_true rfl, Nat.le_of_ble_eq_true rfl⟩ rfl rfl (Nat.le_of_ble_eq_true rfl) dLA_peek_4 (zx_nwW hW) (fun i => if i = 0 then 12 else if i = 1 then 15 else 0) (fun i s1 o hg => ?_) (fun r s1 => ?_) (fun i s1 x => ?_)
  · by_cases h0 : i = 0
    · subst h0
      exact zx_ct1 h hh (by decide) (by decide) (by decide) zk_LA_13 (fun U hU => hU.2.2.2.2.1 _ (by decide +kernel))
    · rw [if_neg h0] at hg
      by_cases h1 : i = 1
      · subst h1
        exact zx_ct2 (n1 := 0) h hh (by decide) (by decide) (by decide) zk_LA_13 (fun U hU => hU.2.2.2.2.2) (by decide) (by decide) (by decide) zk_LA_26 (fun U hU => hU.2.2.2.2.1 _ (by decide +kernel))
      · rw [if_neg h1] at hg; cases hg
  · refine zz_i2l h dLA_peek_7 ?_
    refine zz_last h 45 6 rfl rfl (st' := ((s1.1, s1.2.1, r.toInt64) : zl_S)) (fun _ => zl_ost s1 _) dLA_peek_8 ?_
    refine zz_goto h 18 dLA_peek_9 rfl ?_
    refine zz_iconst (v := 0) h dLA_peek_18 zz_li_0 ?_
    exact zw_iret h hW (Nat.le_refl _) (Nat.le_refl _) dLA_peek_19
  · by_cases h0 : i = 0
    · subst h0
      show zz_Z (zl_V l D aC aM aO cC cM cO tb) E 4 (0 + 1) (0 + 6) (zz_t (zl_V l D aC aM aO cC cM cO tb) E zz_ji zx_c) (some (Sum.inl 1, s1)) 12 [(0, .ref (aC 0)), (1, .int x1), (2, .ref aO)] [.ref x] s1
      refine zz_astore_n h dLA_peek_12 (Nat.le_of_ble_eq_true rfl) ?_
      refine zz_iconst (v := 1) h dLA_peek_13 zz_li_1 ?_
      exact zw_iret h hW (Nat.le_refl _) (Nat.le_refl _) dLA_peek_14
    · by_cases h1 : i = 1
      · subst h1
        show zz_Z (zl_V l D aC aM aO cC cM cO tb) E 4 (0 + 1) (0 + 6) (zz_t (zl_V l D aC aM aO cC cM cO tb) E zz_ji zx_c) (some (Sum.inl 2, s1)) 15 [(0, .ref (aC 0)), (1, .int x1), (2, .ref aO)] [.ref x] s1
        refine zz_astore_n h dLA_peek_15 (Nat.le_of_ble_eq_true rfl) ?_
        refine zz_iconst (v := 2) h dLA_peek_16 zz_li_2 ?_
        exact zw_iret h hW (Nat.le_refl _) (Nat.le_refl _) dLA_peek_17
      · rw [if_neg h0, if_neg h1]; exact zz_none
theorem LA_peek_c {l : Launch} {D : va_G} {aC aM : Nat → Nat} {aO : Nat} {cC cM : Nat → ClassId} {cO : ClassId} {tb : Nat} (hap : ∀ st, va_D (zl_as aC aM aO) (zl_w aC aM aO cC cM cO st)) (hVc : zz_ok (zc_V l D aC cC tb)) (htr : l.stackTraces = false) (x1 : Int32) (st : zl_S) : zz_CT (zl_V l D aC aM aO cC cM cO tb) yLA_peek (Cond.codeWith yLA_peek method_7_code 4 (some .int) [(0, 9, 12, 13), (0, 9, 15, 26)] :: zt_T) { frames := 7, cells := 1, slots := 6, locals := 102 } 1 6 zz_ji zx_c [.ref (aC 0), .int x1, .ref aO] st (LA_peek_f x1 st) := zz_metW (zl_ok hap) htr (by decide +kernel) rfl (Nat.le_of_ble_eq_true rfl) rfl (fun E h hW hh => LA_peek_w hap hVc htr h hW hh x1 st)
def LA_start_f (x1 x2 : Int32) (st : zl_S) : Option ((Int32 ⊕ Nat) × zl_S) := zz_bt (zz_lf (fun s => ((s, st.2) : zl_S)) (FP_start_f x1 x2 st.1)) (fun r s1 => zz_gd (zz_in 0 1) (some (Sum.inl 0, ((s1.1, s1.2.1, r.toInt64) : zl_S)))) (fun i s1 => if i = 1 then some (Sum.inl 1, s1) else none)
set_option maxRecDepth 100000 in
set_option maxHeartbeats 4000000 in
theorem LA_start_w {l : Launch} {D : va_G} {aC aM : Nat → Nat} {aO : Nat} {cC cM : Nat → ClassId} {cO : ClassId} {tb : Nat} {E : zz_E} (hap : ∀ st, va_D (zl_as aC aM aO) (zl_w aC aM aO cC cM cO st)) (hVc : zz_ok (zc_V l D aC cC tb)) (htr : l.stackTraces = false) (h : zz_X (zl_V l D aC aM aO cC cM cO tb) E "FrameProcessorLaw" method_8_code 5 zt_T 7 143 (some .int)) (hW : zz_XW (zl_V l D aC aM aO cC cM cO tb) E 1 6) (hh : zz_hd E [(0, 10, 13, 26)]) (x1 x2 : Int32) (st : zl_S) : zz_Z (zl_V l D aC aM aO cC cM cO tb) E 5 0 0 (zz_t (zl_V l D aC aM aO cC cM cO tb) E zz_ji zx_c) (LA_start_f x1 x2 st) 0 [(0, .ref (aC 0)), (1, .int x1), (2, .int x2), (3, .ref aO)] [] st := by
  unfold LA_start_f
  refine zz_aload_n h dLA_start_0 rfl ?_
  refine zz_iconst (v := 0) h dLA_start_1 zz_li_0 ?_
  refine zz_aload_n h dLA_start_2 rfl ?_
  refine zz_iload_n h dLA_start_3 rfl ?_
  refine zz_iload_n h dLA_start_4 rfl ?_
  refine zg_callT h (zx_csW hW) (q0 := 0) (As := [.int x1, .int x2]) (rest := [.int 0, .ref aO]) rfl rfl (zl_CT hap st (FP_start_c hVc htr x1 x2 st.1)) FP_start_k zm_LA_31 rfl rfl ⟨Nat.le_of_ble_eq_true rfl, Nat.le_of_ble_eq_true rfl⟩ rfl rfl (Nat.le_of_ble_eq_true rfl) dLA_start_5 (zx_nwW hW) (fun i => if i = 1 then 13 else 0) (fun i s1 o hg => ?_) (fun r s1 => ?_) (fun i s1 x => ?_)
  · by_cases h0 : i = 1
    · subst h0
      exact zx_ct1 h hh (by decide) (by decide) (by decide) zk_LA_26 (fun U hU => hU.2.2.2.2.1 _ (by decide +kernel))
    · rw [if_neg h0] at hg; cases hg
  · refine zz_i2l h dLA_start_8 ?_
    refine zz_last h 45 6 rfl rfl (st' := ((s1.1, s1.2.1, r.toInt64) : zl_S)) (fun _ => zl_ost s1 _) dLA_start_9 ?_
    refine zz_goto h 17 dLA_start_10 rfl ?_
    refine zz_iconst (v := 0) h dLA_start_17 zz_li_0 ?_
    exact zw_iret h hW (Nat.le_refl _) (Nat.le_refl _) dLA_start_18
  · by_cases h0 : i = 1
    · subst h0
      show zz_Z (zl_V l D aC aM aO cC cM cO tb) E 5 (0 + 1) (0 + 6) (zz_t (zl_V l D aC aM aO cC cM cO tb) E zz_ji zx_c) (some (Sum.inl 1, s1)) 13 [(0, .ref (aC 0)), (1, .int x1), (2, .int x2), (3, .ref aO)] [.ref x] s1
      refine zz_astore h dLA_start_13 (Nat.le_of_ble_eq_true rfl) ?_
      refine zz_iconst (v := 1) h dLA_start_15 zz_li_1 ?_
      exact zw_iret h hW (Nat.le_refl _) (Nat.le_refl _) dLA_start_16
    · rw [if_neg h0]; exact zz_none
theorem LA_start_c {l : Launch} {D : va_G} {aC aM : Nat → Nat} {aO : Nat} {cC cM : Nat → ClassId} {cO : ClassId} {tb : Nat} (hap : ∀ st, va_D (zl_as aC aM aO) (zl_w aC aM aO cC cM cO st)) (hVc : zz_ok (zc_V l D aC cC tb)) (htr : l.stackTraces = false) (x1 x2 : Int32) (st : zl_S) : zz_CT (zl_V l D aC aM aO cC cM cO tb) yLA_start (Cond.codeWith yLA_start method_8_code 5 (some .int) [(0, 10, 13, 26)] :: zt_T) { frames := 7, cells := 1, slots := 6, locals := 143 } 1 6 zz_ji zx_c [.ref (aC 0), .int x1, .int x2, .ref aO] st (LA_start_f x1 x2 st) := zz_metW (zl_ok hap) htr (by decide +kernel) rfl (Nat.le_of_ble_eq_true rfl) rfl (fun E h hW hh => LA_start_w hap hVc htr h hW hh x1 x2 st)
def LA_run_f (x1 : Int32) (st : zl_S) : Option ((Int32 ⊕ Nat) × zl_S) := zz_bt (zz_lf (fun s => ((s, st.2) : zl_S)) (FP_run_f x1 st.1)) (fun r s1 => zz_gd (zz_in 0 1) (some (Sum.inl 0, ((s1.1, s1.2.1, r.toInt64) : zl_S)))) (fun i s1 => if i = 2 then some (Sum.inl 1, s1) else none)
set_option maxRecDepth 100000 in
set_option maxHeartbeats 4000000 in
theorem LA_run_w {l : Launch} {D : va_G} {aC aM : Nat → Nat} {aO : Nat} {cC cM : Nat → ClassId} {cO : ClassId} {tb : Nat} {E : zz_E} (hap : ∀ st, va_D (zl_as aC aM aO) (zl_w aC aM aO cC cM cO st)) (hVc : zz_ok (zc_V l D aC cC tb)) (htr : l.stackTraces = false) (h : zz_X (zl_V l D aC aM aO cC cM cO tb) E "FrameProcessorLaw" method_9_code 4 zt_T 7 167 (some .int)) (hW : zz_XW (zl_V l D aC aM aO cC cM cO tb) E 1 6) (hh : zz_hd E [(0, 9, 12, 38)]) (x1 : Int32) (st : zl_S) : zz_Z (zl_V l D aC aM aO cC cM cO tb) E 4 0 0 (zz_t (zl_V l D aC aM aO cC cM cO tb) E zz_ji zx_c) (LA_run_f x1 st) 0 [(0, .ref (aC 0)), (1, .int x1), (2, .ref aO)] [] st := by
  unfold LA_run_f
  refine zz_aload_n h dLA_run_0 rfl ?_
  refine zz_iconst (v := 0) h dLA_run_1 zz_li_0 ?_
  refine zz_aload_n h dLA_run_2 rfl ?_
  refine zz_iload_n h dLA_run_3 rfl ?_
  refine zg_callT h (zx_csW hW) (q0 := 0) (As := [.int x1]) (rest := [.int 0, .ref aO]) rfl rfl (zl_CT hap st (FP_run_c hVc htr x1 st.1)) FP_run_k zm_LA_35 rfl rfl ⟨Nat.le_of_ble_eq_true rfl, Nat.le_of_ble_eq_true rfl⟩ rfl rfl (Nat.le_of_ble_eq_true rfl) dLA_run_4 (zx_nwW hW) (fun i => if i = 2 then 12 else 0) (fun i s1 o hg => ?_) (fun r s1 => ?_) (fun i s1 x => ?_)
  · by_cases h0 : i = 2
    · subst h0
      exact zx_ct1 h hh (by decide) (by decide) (by decide) zk_LA_38 (fun U hU => hU.2.2.2.2.1 _ (by decide +kernel))
    · rw [if_neg h0] at hg; cases hg
  · refine zz_i2l h dLA_run_7 ?_
    refine zz_last h 45 6 rfl rfl (st' := ((s1.1, s1.2.1, r.toInt64) : zl_S)) (fun _ => zl_ost s1 _) dLA_run_8 ?_
    refine zz_goto h 15 dLA_run_9 rfl ?_
    refine zz_iconst (v := 0) h dLA_run_15 zz_li_0 ?_
    exact zw_iret h hW (Nat.le_refl _) (Nat.le_refl _) dLA_run_16
  · by_cases h0 : i = 2
    · subst h0
      show zz_Z (zl_V l D aC aM aO cC cM cO tb) E 4 (0 + 1) (0 + 6) (zz_t (zl_V l D aC aM aO cC cM cO tb) E zz_ji zx_c) (some (Sum.inl 1, s1)) 12 [(0, .ref (aC 0)), (1, .int x1), (2, .ref aO)] [.ref x] s1
      refine zz_astore_n h dLA_run_12 (Nat.le_of_ble_eq_true rfl) ?_
      refine zz_iconst (v := 1) h dLA_run_13 zz_li_1 ?_
      exact zw_iret h hW (Nat.le_refl _) (Nat.le_refl _) dLA_run_14
    · rw [if_neg h0]; exact zz_none
theorem LA_run_c {l : Launch} {D : va_G} {aC aM : Nat → Nat} {aO : Nat} {cC cM : Nat → ClassId} {cO : ClassId} {tb : Nat} (hap : ∀ st, va_D (zl_as aC aM aO) (zl_w aC aM aO cC cM cO st)) (hVc : zz_ok (zc_V l D aC cC tb)) (htr : l.stackTraces = false) (x1 : Int32) (st : zl_S) : zz_CT (zl_V l D aC aM aO cC cM cO tb) yLA_run (Cond.codeWith yLA_run method_9_code 4 (some .int) [(0, 9, 12, 38)] :: zt_T) { frames := 7, cells := 1, slots := 6, locals := 167 } 1 6 zz_ji zx_c [.ref (aC 0), .int x1, .ref aO] st (LA_run_f x1 st) := zz_metW (zl_ok hap) htr (by decide +kernel) rfl (Nat.le_of_ble_eq_true rfl) rfl (fun E h hW hh => LA_run_w hap hVc htr h hW hh x1 st)
def LA_resume_f (x1 : Int32) (st : zl_S) : Option ((Int32 ⊕ Nat) × zl_S) := zz_bt (zz_lf (fun s => ((s, st.2) : zl_S)) (FP_resume_f x1 st.1)) (fun _ s1 => some (Sum.inl 0, s1)) (fun i s1 => if i = 0 then some (Sum.inl 1, s1) else if i = 1 then some (Sum.inl 2, s1) else none)
set_option maxRecDepth 100000 in
set_option maxHeartbeats 4000000 in
theorem LA_resume_w {l : Launch} {D : va_G} {aC aM : Nat → Nat} {aO : Nat} {cC cM : Nat → ClassId} {cO : ClassId} {tb : Nat} {E : zz_E} (hap : ∀ st, va_D (zl_as aC aM aO) (zl_w aC aM aO cC cM cO st)) (hVc : zz_ok (zc_V l D aC cC tb)) (htr : l.stackTraces = false) (h : zz_X (zl_V l D aC aM aO cC cM cO tb) E "FrameProcessorLaw" method_10_code 3 zt_T 7 103 (some .int)) (hW : zz_XW (zl_V l D aC aM aO cC cM cO tb) E 1 6) (hh : zz_hd E [(0, 5, 8, 13), (0, 5, 11, 26)]) (x1 : Int32) (st : zl_S) : zz_Z (zl_V l D aC aM aO cC cM cO tb) E 3 0 0 (zz_t (zl_V l D aC aM aO cC cM cO tb) E zz_ji zx_c) (LA_resume_f x1 st) 0 [(0, .ref (aC 0)), (1, .int x1)] [] st := by
  unfold LA_resume_f
  refine zz_aload_n h dLA_resume_0 rfl ?_
  refine zz_iload_n h dLA_resume_1 rfl ?_
  refine zg_callT h (zx_csW hW) (q0 := 0) (As := [.int x1]) (rest := []) rfl rfl (zl_CT hap st (FP_resume_c hVc htr x1 st.1)) FP_resume_k zm_LA_40 rfl rfl ⟨Nat.le_of_ble_eq_true rfl, Nat.le_of_ble_eq_true rfl⟩ rfl rfl (Nat.le_of_ble_eq_true rfl) dLA_resume_2 (zx_nwW hW) (fun i => if i = 0 then 8 else if i = 1 then 11 else 0) (fun i s1 o hg => ?_) (fun r s1 => ?_) (fun i s1 x => ?_)
  · by_cases h0 : i = 0
    · subst h0
      exact zx_ct1 h hh (by decide) (by decide) (by decide) zk_LA_13 (fun U hU => hU.2.2.2.2.1 _ (by decide +kernel))
    · rw [if_neg h0] at hg
      by_cases h1 : i = 1
      · subst h1
        exact zx_ct2 (n1 := 0) h hh (by decide) (by decide) (by decide) zk_LA_13 (fun U hU => hU.2.2.2.2.2) (by decide) (by decide) (by decide) zk_LA_26 (fun U hU => hU.2.2.2.2.1 _ (by decide +kernel))
      · rw [if_neg h1] at hg; cases hg
  · refine zz_goto h 14 dLA_resume_5 rfl ?_
    refine zz_iconst (v := 0) h dLA_resume_14 zz_li_0 ?_
    exact zw_iret h hW (Nat.le_refl _) (Nat.le_refl _) dLA_resume_15
  · by_cases h0 : i = 0
    · subst h0
      show zz_Z (zl_V l D aC aM aO cC cM cO tb) E 3 (0 + 1) (0 + 6) (zz_t (zl_V l D aC aM aO cC cM cO tb) E zz_ji zx_c) (some (Sum.inl 1, s1)) 8 [(0, .ref (aC 0)), (1, .int x1)] [.ref x] s1
      refine zz_astore_n h dLA_resume_8 (Nat.le_of_ble_eq_true rfl) ?_
      refine zz_iconst (v := 1) h dLA_resume_9 zz_li_1 ?_
      exact zw_iret h hW (Nat.le_refl _) (Nat.le_refl _) dLA_resume_10
    · by_cases h1 : i = 1
      · subst h1
        show zz_Z (zl_V l D aC aM aO cC cM cO tb) E 3 (0 + 1) (0 + 6) (zz_t (zl_V l D aC aM aO cC cM cO tb) E zz_ji zx_c) (some (Sum.inl 2, s1)) 11 [(0, .ref (aC 0)), (1, .int x1)] [.ref x] s1
        refine zz_astore_n h dLA_resume_11 (Nat.le_of_ble_eq_true rfl) ?_
        refine zz_iconst (v := 2) h dLA_resume_12 zz_li_2 ?_
        exact zw_iret h hW (Nat.le_refl _) (Nat.le_refl _) dLA_resume_13
      · rw [if_neg h0, if_neg h1]; exact zz_none
theorem LA_resume_c {l : Launch} {D : va_G} {aC aM : Nat → Nat} {aO : Nat} {cC cM : Nat → ClassId} {cO : ClassId} {tb : Nat} (hap : ∀ st, va_D (zl_as aC aM aO) (zl_w aC aM aO cC cM cO st)) (hVc : zz_ok (zc_V l D aC cC tb)) (htr : l.stackTraces = false) (x1 : Int32) (st : zl_S) : zz_CT (zl_V l D aC aM aO cC cM cO tb) yLA_resume (Cond.codeWith yLA_resume method_10_code 3 (some .int) [(0, 5, 8, 13), (0, 5, 11, 26)] :: zt_T) { frames := 7, cells := 1, slots := 6, locals := 103 } 1 6 zz_ji zx_c [.ref (aC 0), .int x1] st (LA_resume_f x1 st) := zz_metW (zl_ok hap) htr (by decide +kernel) rfl (Nat.le_of_ble_eq_true rfl) rfl (fun E h hW hh => LA_resume_w hap hVc htr h hW hh x1 st)
def LA_kill_f (x1 : Int32) (st : zl_S) : Option ((Int32 ⊕ Nat) × zl_S) := zz_bt (zz_lf (fun s => ((s, st.2) : zl_S)) (FP_kill_f x1 st.1)) (fun _ s1 => some (Sum.inl 0, s1)) (fun i s1 => if i = 0 then some (Sum.inl 1, s1) else if i = 1 then some (Sum.inl 2, s1) else none)
set_option maxRecDepth 100000 in
set_option maxHeartbeats 4000000 in
theorem LA_kill_w {l : Launch} {D : va_G} {aC aM : Nat → Nat} {aO : Nat} {cC cM : Nat → ClassId} {cO : ClassId} {tb : Nat} {E : zz_E} (hap : ∀ st, va_D (zl_as aC aM aO) (zl_w aC aM aO cC cM cO st)) (hVc : zz_ok (zc_V l D aC cC tb)) (htr : l.stackTraces = false) (h : zz_X (zl_V l D aC aM aO cC cM cO tb) E "FrameProcessorLaw" method_11_code 3 zt_T 7 103 (some .int)) (hW : zz_XW (zl_V l D aC aM aO cC cM cO tb) E 1 6) (hh : zz_hd E [(0, 5, 8, 13), (0, 5, 11, 26)]) (x1 : Int32) (st : zl_S) : zz_Z (zl_V l D aC aM aO cC cM cO tb) E 3 0 0 (zz_t (zl_V l D aC aM aO cC cM cO tb) E zz_ji zx_c) (LA_kill_f x1 st) 0 [(0, .ref (aC 0)), (1, .int x1)] [] st := by
  unfold LA_kill_f
  refine zz_aload_n h dLA_kill_0 rfl ?_
  refine zz_iload_n h dLA_kill_1 rfl ?_
  refine zg_callT h (zx_csW hW) (q0 := 0) (As := [.int x1]) (rest := []) rfl rfl (zl_CT hap st (FP_kill_c hVc htr x1 st.1)) FP_kill_k zm_LA_44 rfl rfl ⟨Nat.le_of_ble_eq_true rfl, Nat.le_of_ble_eq_true rfl⟩ rfl rfl (Nat.le_of_ble_eq_true rfl) dLA_kill_2 (zx_nwW hW) (fun i => if i = 0 then 8 else if i = 1 then 11 else 0) (fun i s1 o hg => ?_) (fun r s1 => ?_) (fun i s1 x => ?_)
  · by_cases h0 : i = 0
    · subst h0
      exact zx_ct1 h hh (by decide) (by decide) (by decide) zk_LA_13 (fun U hU => hU.2.2.2.2.1 _ (by decide +kernel))
    · rw [if_neg h0] at hg
      by_cases h1 : i = 1
      · subst h1
        exact zx_ct2 (n1 := 0) h hh (by decide) (by decide) (by decide) zk_LA_13 (fun U hU => hU.2.2.2.2.2) (by decide) (by decide) (by decide) zk_LA_26 (fun U hU => hU.2.2.2.2.1 _ (by decide +kernel))
      · rw [if_neg h1] at hg; cases hg
  · refine zz_goto h 14 dLA_kill_5 rfl ?_
    refine zz_iconst (v := 0) h dLA_kill_14 zz_li_0 ?_
    exact zw_iret h hW (Nat.le_refl _) (Nat.le_refl _) dLA_kill_15
  · by_cases h0 : i = 0
    · subst h0
      show zz_Z (zl_V l D aC aM aO cC cM cO tb) E 3 (0 + 1) (0 + 6) (zz_t (zl_V l D aC aM aO cC cM cO tb) E zz_ji zx_c) (some (Sum.inl 1, s1)) 8 [(0, .ref (aC 0)), (1, .int x1)] [.ref x] s1
      refine zz_astore_n h dLA_kill_8 (Nat.le_of_ble_eq_true rfl) ?_
      refine zz_iconst (v := 1) h dLA_kill_9 zz_li_1 ?_
      exact zw_iret h hW (Nat.le_refl _) (Nat.le_refl _) dLA_kill_10
    · by_cases h1 : i = 1
      · subst h1
        show zz_Z (zl_V l D aC aM aO cC cM cO tb) E 3 (0 + 1) (0 + 6) (zz_t (zl_V l D aC aM aO cC cM cO tb) E zz_ji zx_c) (some (Sum.inl 2, s1)) 11 [(0, .ref (aC 0)), (1, .int x1)] [.ref x] s1
        refine zz_astore_n h dLA_kill_11 (Nat.le_of_ble_eq_true rfl) ?_
        refine zz_iconst (v := 2) h dLA_kill_12 zz_li_2 ?_
        exact zw_iret h hW (Nat.le_refl _) (Nat.le_refl _) dLA_kill_13
      · rw [if_neg h0, if_neg h1]; exact zz_none
theorem LA_kill_c {l : Launch} {D : va_G} {aC aM : Nat → Nat} {aO : Nat} {cC cM : Nat → ClassId} {cO : ClassId} {tb : Nat} (hap : ∀ st, va_D (zl_as aC aM aO) (zl_w aC aM aO cC cM cO st)) (hVc : zz_ok (zc_V l D aC cC tb)) (htr : l.stackTraces = false) (x1 : Int32) (st : zl_S) : zz_CT (zl_V l D aC aM aO cC cM cO tb) yLA_kill (Cond.codeWith yLA_kill method_11_code 3 (some .int) [(0, 5, 8, 13), (0, 5, 11, 26)] :: zt_T) { frames := 7, cells := 1, slots := 6, locals := 103 } 1 6 zz_ji zx_c [.ref (aC 0), .int x1] st (LA_kill_f x1 st) := zz_metW (zl_ok hap) htr (by decide +kernel) rfl (Nat.le_of_ble_eq_true rfl) rfl (fun E h hW hh => LA_kill_w hap hVc htr h hW hh x1 st)
def LA_interrupt_f (x1 : Int32) (st : zl_S) : Option ((Int32 ⊕ Nat) × zl_S) := zz_bt (zz_lf (fun s => ((s, st.2) : zl_S)) (FP_interrupt_f x1 st.1)) (fun r s1 => zz_gd (zz_in 0 1) (some (Sum.inl 0, ((s1.1, s1.2.1, r.toInt64) : zl_S)))) (fun i s1 => if i = 0 then some (Sum.inl 1, s1) else none)
set_option maxRecDepth 100000 in
set_option maxHeartbeats 4000000 in
theorem LA_interrupt_w {l : Launch} {D : va_G} {aC aM : Nat → Nat} {aO : Nat} {cC cM : Nat → ClassId} {cO : ClassId} {tb : Nat} {E : zz_E} (hap : ∀ st, va_D (zl_as aC aM aO) (zl_w aC aM aO cC cM cO st)) (hVc : zz_ok (zc_V l D aC cC tb)) (htr : l.stackTraces = false) (h : zz_X (zl_V l D aC aM aO cC cM cO tb) E "FrameProcessorLaw" method_12_code 4 zt_T 7 103 (some .int)) (hW : zz_XW (zl_V l D aC aM aO cC cM cO tb) E 1 6) (hh : zz_hd E [(0, 9, 12, 13)]) (x1 : Int32) (st : zl_S) : zz_Z (zl_V l D aC aM aO cC cM cO tb) E 4 0 0 (zz_t (zl_V l D aC aM aO cC cM cO tb) E zz_ji zx_c) (LA_interrupt_f x1 st) 0 [(0, .ref (aC 0)), (1, .int x1), (2, .ref aO)] [] st := by
  unfold LA_interrupt_f
  refine zz_aload_n h dLA_interrupt_0 rfl ?_
  refine zz_iconst (v := 0) h dLA_interrupt_1 zz_li_0 ?_
  refine zz_aload_n h dLA_interrupt_2 rfl ?_
  refine zz_iload_n h dLA_interrupt_3 rfl ?_
  refine zg_callT h (zx_csW hW) (q0 := 0) (As := [.int x1]) (rest := [.int 0, .ref aO]) rfl rfl (zl_CT hap st (FP_interrupt_c hVc htr x1 st.1)) FP_interrupt_k zm_LA_47 rfl rfl ⟨Nat.le_of_ble_eq_true rfl, Nat.le_of_ble_eq_true rfl⟩ rfl rfl (Nat.le_of_ble_eq_true rfl) dLA_interrupt_4 (zx_nwW hW) (fun i => if i = 0 then 12 else 0) (fun i s1 o hg => ?_) (fun r s1 => ?_) (fun i s1 x => ?_)
  · by_cases h0 : i = 0
    · subst h0
      exact zx_ct1 h hh (by decide) (by decide) (by decide) zk_LA_13 (fun U hU => hU.2.2.2.2.1 _ (by decide +kernel))
    · rw [if_neg h0] at hg; cases hg
  · refine zz_i2l h dLA_interrupt_7 ?_
    refine zz_last h 45 6 rfl rfl (st' := ((s1.1, s1.2.1, r.toInt64) : zl_S)) (fun _ => zl_ost s1 _) dLA_interrupt_8 ?_
    refine zz_goto h 15 dLA_interrupt_9 rfl ?_
    refine zz_iconst (v := 0) h dLA_interrupt_15 zz_li_0 ?_
    exact zw_iret h hW (Nat.le_refl _) (Nat.le_refl _) dLA_interrupt_16
  · by_cases h0 : i = 0
    · subst h0
      show zz_Z (zl_V l D aC aM aO cC cM cO tb) E 4 (0 + 1) (0 + 6) (zz_t (zl_V l D aC aM aO cC cM cO tb) E zz_ji zx_c) (some (Sum.inl 1, s1)) 12 [(0, .ref (aC 0)), (1, .int x1), (2, .ref aO)] [.ref x] s1
      refine zz_astore_n h dLA_interrupt_12 (Nat.le_of_ble_eq_true rfl) ?_
      refine zz_iconst (v := 1) h dLA_interrupt_13 zz_li_1 ?_
      exact zw_iret h hW (Nat.le_refl _) (Nat.le_refl _) dLA_interrupt_14
    · rw [if_neg h0]; exact zz_none
theorem LA_interrupt_c {l : Launch} {D : va_G} {aC aM : Nat → Nat} {aO : Nat} {cC cM : Nat → ClassId} {cO : ClassId} {tb : Nat} (hap : ∀ st, va_D (zl_as aC aM aO) (zl_w aC aM aO cC cM cO st)) (hVc : zz_ok (zc_V l D aC cC tb)) (htr : l.stackTraces = false) (x1 : Int32) (st : zl_S) : zz_CT (zl_V l D aC aM aO cC cM cO tb) yLA_interrupt (Cond.codeWith yLA_interrupt method_12_code 4 (some .int) [(0, 9, 12, 13)] :: zt_T) { frames := 7, cells := 1, slots := 6, locals := 103 } 1 6 zz_ji zx_c [.ref (aC 0), .int x1, .ref aO] st (LA_interrupt_f x1 st) := zz_metW (zl_ok hap) htr (by decide +kernel) rfl (Nat.le_of_ble_eq_true rfl) rfl (fun E h hW hh => LA_interrupt_w hap hVc htr h hW hh x1 st)
def LA_tick_f (x1 : Int32) (st : zl_S) : Option ((Int32 ⊕ Nat) × zl_S) := zz_bt (zz_lf (fun s => ((s, st.2) : zl_S)) (FP_tick_f x1 st.1)) (fun r s1 => zz_gd (zz_in 0 1) (some (Sum.inl 0, ((s1.1, s1.2.1, r.toInt64) : zl_S)))) (fun i s1 => if i = 2 then some (Sum.inl 1, s1) else none)
set_option maxRecDepth 100000 in
set_option maxHeartbeats 4000000 in
theorem LA_tick_w {l : Launch} {D : va_G} {aC aM : Nat → Nat} {aO : Nat} {cC cM : Nat → ClassId} {cO : ClassId} {tb : Nat} {E : zz_E} (hap : ∀ st, va_D (zl_as aC aM aO) (zl_w aC aM aO cC cM cO st)) (hVc : zz_ok (zc_V l D aC cC tb)) (htr : l.stackTraces = false) (h : zz_X (zl_V l D aC aM aO cC cM cO tb) E "FrameProcessorLaw" method_13_code 4 zt_T 7 113 (some .int)) (hW : zz_XW (zl_V l D aC aM aO cC cM cO tb) E 1 6) (hh : zz_hd E [(0, 9, 12, 38)]) (x1 : Int32) (st : zl_S) : zz_Z (zl_V l D aC aM aO cC cM cO tb) E 4 0 0 (zz_t (zl_V l D aC aM aO cC cM cO tb) E zz_ji zx_c) (LA_tick_f x1 st) 0 [(0, .ref (aC 0)), (1, .int x1), (2, .ref aO)] [] st := by
  unfold LA_tick_f
  refine zz_aload_n h dLA_tick_0 rfl ?_
  refine zz_iconst (v := 0) h dLA_tick_1 zz_li_0 ?_
  refine zz_aload_n h dLA_tick_2 rfl ?_
  refine zz_iload_n h dLA_tick_3 rfl ?_
  refine zg_callT h (zx_csW hW) (q0 := 0) (As := [.int x1]) (rest := [.int 0, .ref aO]) rfl rfl (zl_CT hap st (FP_tick_c hVc htr x1 st.1)) FP_tick_k zm_LA_50 rfl rfl ⟨Nat.le_of_ble_eq_true rfl, Nat.le_of_ble_eq_true rfl⟩ rfl rfl (Nat.le_of_ble_eq_true rfl) dLA_tick_4 (zx_nwW hW) (fun i => if i = 2 then 12 else 0) (fun i s1 o hg => ?_) (fun r s1 => ?_) (fun i s1 x => ?_)
  · by_cases h0 : i = 2
    · subst h0
      exact zx_ct1 h hh (by decide) (by decide) (by decide) zk_LA_38 (fun U hU => hU.2.2.2.2.1 _ (by decide +kernel))
    · rw [if_neg h0] at hg; cases hg
  · refine zz_i2l h dLA_tick_7 ?_
    refine zz_last h 45 6 rfl rfl (st' := ((s1.1, s1.2.1, r.toInt64) : zl_S)) (fun _ => zl_ost s1 _) dLA_tick_8 ?_
    refine zz_goto h 15 dLA_tick_9 rfl ?_
    refine zz_iconst (v := 0) h dLA_tick_15 zz_li_0 ?_
    exact zw_iret h hW (Nat.le_refl _) (Nat.le_refl _) dLA_tick_16
  · by_cases h0 : i = 2
    · subst h0
      show zz_Z (zl_V l D aC aM aO cC cM cO tb) E 4 (0 + 1) (0 + 6) (zz_t (zl_V l D aC aM aO cC cM cO tb) E zz_ji zx_c) (some (Sum.inl 1, s1)) 12 [(0, .ref (aC 0)), (1, .int x1), (2, .ref aO)] [.ref x] s1
      refine zz_astore_n h dLA_tick_12 (Nat.le_of_ble_eq_true rfl) ?_
      refine zz_iconst (v := 1) h dLA_tick_13 zz_li_1 ?_
      exact zw_iret h hW (Nat.le_refl _) (Nat.le_refl _) dLA_tick_14
    · rw [if_neg h0]; exact zz_none
theorem LA_tick_c {l : Launch} {D : va_G} {aC aM : Nat → Nat} {aO : Nat} {cC cM : Nat → ClassId} {cO : ClassId} {tb : Nat} (hap : ∀ st, va_D (zl_as aC aM aO) (zl_w aC aM aO cC cM cO st)) (hVc : zz_ok (zc_V l D aC cC tb)) (htr : l.stackTraces = false) (x1 : Int32) (st : zl_S) : zz_CT (zl_V l D aC aM aO cC cM cO tb) yLA_tick (Cond.codeWith yLA_tick method_13_code 4 (some .int) [(0, 9, 12, 38)] :: zt_T) { frames := 7, cells := 1, slots := 6, locals := 113 } 1 6 zz_ji zx_c [.ref (aC 0), .int x1, .ref aO] st (LA_tick_f x1 st) := zz_metW (zl_ok hap) htr (by decide +kernel) rfl (Nat.le_of_ble_eq_true rfl) rfl (fun E h hW hh => LA_tick_w hap hVc htr h hW hh x1 st)
