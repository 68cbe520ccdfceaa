theorem zcls : ∀ k, k < 256 → (k ∈ [0, 9, 10, 11, 12, 13, 14, 15, 16, 17, 18, 19, 27, 28, 30, 31, 40, 41, 42, 43, 44, 45] ∧ zf_more k = 0) ∨ (k ∈ [1, 3, 4, 5, 6, 7, 8, 20, 21, 22, 23, 24, 25, 26, 29] ∧ zf_more k = 1) ∨ (k = 2 ∧ zf_more k = 2) ∨ (31 < k ∧ (k < 40 ∨ 45 < k) ∧ zf_more k = -1) := by decide +kernel
theorem IN_fetch_J {c : zz_S} {m : zM} {d k : Nat} {w : Nat → Int32} (h : zm_ok m) (hf : ¬ zmf m = 0) (hk : k < 256) (b : Int32) : ∃ c', IN_fetch_100 b (zf_more k) (zC c m d w) = some ((), zC c' m d w) ∧ zXc c c' := by
  rcases zcls k hk with ⟨-, e⟩ | ⟨-, e⟩ | ⟨-, e⟩ | ⟨-, -, e⟩
  · rw [e, IN_fetch_0]
    exact ⟨_, rfl, rfl, rfl, rfl, fun _ _ => rfl⟩
  · rw [e, IN_fetch_1 h, za_byte_f hf]
    exact ⟨_, rfl, rfl, rfl, rfl, fun _ _ => rfl⟩
  · rw [e, IN_fetch_2 h, za_byte_f hf, za_byte_f hf]
    exact ⟨_, rfl, rfl, rfl, rfl, fun _ _ => rfl⟩
  · rw [e, IN_fetch_m1 h, za_fail_f hf]
    exact ⟨_, rfl, rfl, rfl, rfl, fun _ _ => rfl⟩
theorem zG_b {B t : Nat} {c r : zz_S} (hT : zTx B 6 c r) (ht : t < 6) (h7 : zz_ag c 7 t = 1) (h3 : zz_sg r 3 = nI t) (hk : zk c r t) (hB : B < 2147483000) (h0 : zz_sg r 0 = 0) : zG B t (zz_ag c 9 t) (zb0 t c) (zb1 r) :=
  ⟨⟨ht, rfl, rfl, h3, hk.2.1.symm⟩, hT, h7, rfl, rfl, rfl, rfl, rfl, rfl, ⟨rfl, h0⟩, hB⟩
/-- where both sides stand behind the code of an instruction -/
def zY (B t : Nat) (fr gl cd : Int32) (g0 fi k dt : Nat) (c r c5 r5 : zz_S) (m5 : zM) (w' v' : Nat → Int32) : Prop := t < 6 ∧ dt ≤ 8 ∧ fi < 65536 ∧ k < 256 ∧ zm_ok m5 ∧ zmk m5 = 0 ∧ (∀ i, i < dt → w' i = v' i ∧ zWd (w' i)) ∧ zWd fr ∧ zWd gl ∧ zz_sg c5 3 = fr ∧ zz_sg c5 14 = nI (g0 % 16) ∧ zz_sg c5 15 = gl ∧ zz_sg c5 16 = nI fi ∧ zz_sg c5 17 = nI k ∧ zz_sg r5 3 = nI t ∧ zz_sg r5 5 = nI ((fi + 1) % 65536) ∧ zz_sg r5 6 = cd ∧ zz_sg r5 7 = gl ∧ zz_sg r5 8 = nI (g0 % 16) ∧ zz_ag r5 7 t = fr ∧ zXc c c5 ∧ zXr t r r5 ∧ zG B t fr c r ∧ zG B t fr c5 r5
def zyC (C : zz_S) : Option (Unit × zz_S) := (zz_bd (ME_hasFailed_f C) fun r_15 s_14 => (if r_15 = 0 then zdis s_14 else (PR_step_106 s_14)))
def zyR (fr : Int32) (fi k : Nat) (R : zz_S) : Option (Unit × zz_S) := if (zz_sg R 2) = 0 then zact fr (MO_act_f (nI fi) (nI k) R) else MO_instruction_164 fr R
theorem zyC_t {C : zz_S} (h : zF C) : zyC C = zdis C := by
  unfold zyC ME_hasFailed_f
  rw [if_pos (show zz_sg C 1 = 0 from h), zz_bd_s, if_pos rfl]
theorem zyC_f {C : zz_S} (h : ¬ zF C) : zyC C = PR_step_106 C := by
  unfold zyC ME_hasFailed_f
  rw [if_neg (show ¬ zz_sg C 1 = 0 from h), zz_bd_s, if_neg (by decide)]
theorem zyR_t {fr : Int32} {fi k : Nat} {r : zz_S} {m : zM} {e : Nat} {v : Nat → Int32} (hm : zm_ok m) (h : zmf m = 0) : zyR fr fi k (zR r m e v) = zact fr (MO_act_f (nI fi) (nI k) (zR r m e v)) := by
  unfold zyR
  rw [if_pos (by rw [zR_sg2, zm_f0 hm]; exact h)]
theorem zyR_f {fr : Int32} {fi k : Nat} {r : zz_S} {m : zM} {e : Nat} {v : Nat → Int32} (hm : zm_ok m) (h : ¬ zmf m = 0) : zyR fr fi k (zR r m e v) = MO_instruction_164 fr (zR r m e v) := by
  unfold zyR
  rw [if_neg (by rw [zR_sg2, zm_f0 hm]; exact h)]
theorem zyE {B t : Nat} {fr b : Int32} {c r C R : zz_S} (hG : zG B t fr c r) (h : zX t c r C R) (hf : ¬ zF C) : zr (PR_step_106 C) (if b = 0 then MO_instruction_164 fr R else MO_instruction_165 fr 1 R) (zPI B) := by
  by_cases hb : b = 0
  · rw [if_pos hb]
    exact zr_mono (zt_f0 hG h hf) (fun _ _ _ _ z => zI0_up z (by omega))
  · rw [if_neg hb]
    exact zr_mono (zt_f0 hG h hf) (fun _ _ _ _ z => zI0_up z (by omega))
theorem zy_0 {B t g0 fi k dt : Nat} {fr gl cd : Int32} {c r c5 r5 : zz_S} {m5 : zM} {w' v' : Nat → Int32} (hY : zY B t fr gl cd g0 fi k dt c r c5 r5 m5 w' v') (f5 : zmf m5 = 0) (hv : k ∈ [0, 9, 10, 11, 12, 13, 14, 15, 16, 17, 18, 19, 27, 28, 30, 31, 40, 41, 42, 43, 44, 45]) (em : zf_more k = 0) : zr (zz_bd (IN_fetch_100 cd (zf_more k) (zC c5 m5 dt w')) fun _ s => zyC s) (zyR fr fi k (zR r5 m5 dt v')) (zPI B) := by
  obtain ⟨ht, hdt, hfi, hk256, ok5, kk5, hst, kw, hgl, c3, c14, c15, c16, c17, r3, h5, r6, r7, r8, rA7, cX, rX, hG, hG5⟩ := hY
  rw [em, IN_fetch_0, zz_bd_s, c16, show nI fi + 1 + 0 = nI (fi + 1) from by rw [nI_1]; exact Int32.add_zero _]
  have hL : zL 0 8 (zz_sp (zz_sp c5 18 0) 19 (nI (fi + 1))) r5 (zC (zz_sp (zz_sp c5 18 0) 19 (nI (fi + 1))) m5 dt w') (zR r5 m5 dt v') := ⟨m5, dt, w', dt, v', rfl, rfl, ok5, by omega, hdt, by omega, by decide, fun _ => ⟨rfl, hst⟩⟩
  rw [zyC_t ((zF_iff ok5).mpr f5), zyR_t ok5 f5, za_0 (fr := fr) hv ht (by rw [zR_sg3, r3]) (by rw [zR_ag7, rA7])]
  exact zq_0 (gl := gl) (gn := g0 % 16) (nx := fi + 1) (n := 0) hv hL ⟨c3, c15, r7, c14, r8, c16, rfl, rfl, h5, kw, hgl, by omega, hfi, by decide⟩ hG5 (by decide) c17
theorem zy_1 {B t g0 fi k dt : Nat} {fr gl cd : Int32} {c r c5 r5 : zz_S} {m5 : zM} {w' v' : Nat → Int32} (hY : zY B t fr gl cd g0 fi k dt c r c5 r5 m5 w' v') (f5 : zmf m5 = 0) (hv : k ∈ [1, 3, 4, 5, 6, 7, 8, 20, 21, 22, 23, 24, 25, 26, 29]) (em : zf_more k = 1) : zr (zz_bd (IN_fetch_100 cd (zf_more k) (zC c5 m5 dt w')) fun _ s => zyC s) (zyR fr fi k (zR r5 m5 dt v')) (zPI B) := by
  obtain ⟨ht, hdt, hfi, hk256, ok5, kk5, hst, kw, hgl, c3, c14, c15, c16, c17, r3, h5, r6, r7, r8, rA7, cX, rX, hG, hG5⟩ := hY
  rw [em, IN_fetch_1 ok5, zz_bd_s, c16, nI_1, nI_1, zyR_t ok5 f5, za_1 (fr := fr) (List.mem_append_left [2] hv) ht (by rw [zR_sg3, r3]) (by rw [zR_ag7, rA7])]
  unfold MO_act_38
  rw [MO_next_e (fi := fi + 1) ok5 h5, r6, zz_bd_s]
  have ok6 := za_byte_ok cd (nI (fi + 1)) ok5
  have kk6 := za_byte_k cd (nI (fi + 1)) m5
  obtain ⟨n, hn, en⟩ := za_byte_w cd (nI (fi + 1)) ok5
  generalize za_byte cd (nI (fi + 1)) m5 = p at ok6 kk6 en ⊢
  obtain ⟨p1, m6⟩ := p
  dsimp only at ok6 kk6 en ⊢
  subst en
  rw [show (0 : Int32) * 256 + nI n = nI n from by rw [Int32.zero_mul, Int32.zero_add]]
  by_cases f6 : zmf m6 = 0
  · have hL : zL 0 8 (zz_sp (zz_sp (zz_sp c5 18 0) 18 (nI n)) 19 (nI (fi + 1 + 1))) (zz_sp r5 5 (nI ((fi + 1 + 1) % 65536))) (zC (zz_sp (zz_sp (zz_sp c5 18 0) 18 (nI n)) 19 (nI (fi + 1 + 1))) m6 dt w') (zR (zz_sp r5 5 (nI ((fi + 1 + 1) % 65536))) m6 dt v') := ⟨m6, dt, w', dt, v', rfl, rfl, ok6, by omega, hdt, by omega, by decide, fun _ => ⟨rfl, hst⟩⟩
    rw [zyC_t ((zF_iff ok6).mpr f6)]
    exact zq_1 (gl := gl) (gn := g0 % 16) (nx := fi + 1 + 1) (n := n) hv hL ⟨c3, c15, r7, c14, r8, c16, rfl, rfl, rfl, kw, hgl, by omega, hfi, by omega⟩ hG5 hn c17
  · have hF : ¬ zF (zC (zz_sp (zz_sp (zz_sp c5 18 0) 18 (nI n)) 19 (nI (fi + 1 + 1))) m6 dt w') := fun z => f6 ((zF_iff ok6).mp z)
    obtain ⟨b, u, eb⟩ := zj_1 (fi := nI fi) (fr := fr) (r := zz_sp r5 5 (nI ((fi + 1 + 1) % 65536))) (e := dt) (v := v') hv ht r3 ok6 (by omega) f6 hn ⟨_, Nat.mod_lt _ (by decide), r8⟩
    rw [zyC_f hF]
    unfold zact
    rw [eb, zz_bd_s]
    exact zyE hG ⟨_, _, ⟨m6, dt, w', dt, v', rfl, rfl, ok6, by omega, by omega, by omega, by decide, fun z => absurd z f6⟩, cX, rX⟩ hF
theorem zy_2 {B t g0 fi k dt : Nat} {fr gl cd : Int32} {c r c5 r5 : zz_S} {m5 : zM} {w' v' : Nat → Int32} (hY : zY B t fr gl cd g0 fi k dt c r c5 r5 m5 w' v') (f5 : zmf m5 = 0) (hv : k = 2) (em : zf_more k = 2) : zr (zz_bd (IN_fetch_100 cd (zf_more k) (zC c5 m5 dt w')) fun _ s => zyC s) (zyR fr fi k (zR r5 m5 dt v')) (zPI B) := by
  obtain ⟨ht, hdt, hfi, hk256, ok5, kk5, hst, kw, hgl, c3, c14, c15, c16, c17, r3, h5, r6, r7, r8, rA7, cX, rX, hG, hG5⟩ := hY
  subst hv
  rw [em, IN_fetch_2 ok5, zz_bd_s, c16, show nI fi + 1 + 2 = nI (fi + 3) from by rw [nI_1, show (2 : Int32) = nI 2 from by decide, nI_add], nI_1, show nI fi + 2 = nI (fi + 2) from by rw [show (2 : Int32) = nI 2 from by decide, nI_add], zyR_t ok5 f5, za_1 (fr := fr) (by decide) ht (by rw [zR_sg3, r3]) (by rw [zR_ag7, rA7])]
  unfold MO_act_38
  rw [MO_next_e (fi := fi + 1) ok5 h5, r6, zz_bd_s]
  have ok6 := za_byte_ok cd (nI (fi + 1)) ok5
  have kk6 := za_byte_k cd (nI (fi + 1)) m5
  obtain ⟨n1, hn1, en1⟩ := za_byte_w cd (nI (fi + 1)) ok5
  generalize za_byte cd (nI (fi + 1)) m5 = p at ok6 kk6 en1 ⊢
  obtain ⟨p1, m6⟩ := p
  dsimp only at ok6 kk6 en1 ⊢
  subst en1
  have e46 : ∀ R, MO_act_46 (nI fi) (nI 2) fr (nI n1) R = zz_bd (MO_nextByte_f R) fun q s => zz_bd (MO_push_f ((256 : Int32) * nI n1 + q) s) fun _ s => some ((1 : Int32), s) := fun R => by
    unfold MO_act_46
    rw [show nI 2 = (2 : Int32) from rfl]
    simp (decide := true) only [↓reduceIte]
  rw [e46, MO_next_e (fi := fi + 2) ok6 rfl, show zz_sg (zz_sp r5 5 (nI ((fi + 1 + 1) % 65536))) 6 = zz_sg r5 6 from rfl, r6, zz_bd_s, zz_sp_sp r5]
  have ok7 := za_byte_ok cd (nI (fi + 2)) ok6
  have kk7 := za_byte_k cd (nI (fi + 2)) m6
  obtain ⟨n2, hn2, en2⟩ := za_byte_w cd (nI (fi + 2)) ok6
  generalize za_byte cd (nI (fi + 2)) m6 = p at ok7 kk7 en2 ⊢
  obtain ⟨p1, m7⟩ := p
  dsimp only at ok7 kk7 en2 ⊢
  subst en2
  rw [show ((0 : Int32) * 256 + nI n1) * 256 + nI n2 = nI (256 * n1 + n2) from by rw [Int32.zero_mul, Int32.zero_add, zi_place], show (256 : Int32) * nI n1 + nI n2 = nI (256 * n1 + n2) from zi_place' n1 n2]
  have hL : zL 0 8 (zz_sp (zz_sp (zz_sp (zz_sp c5 18 0) 18 (0 * 256 + nI n1)) 18 (nI (256 * n1 + n2))) 19 (nI (fi + 3))) (zz_sp r5 5 (nI ((fi + 2 + 1) % 65536))) (zC (zz_sp (zz_sp (zz_sp (zz_sp c5 18 0) 18 (0 * 256 + nI n1)) 18 (nI (256 * n1 + n2))) 19 (nI (fi + 3))) m7 dt w') (zR (zz_sp r5 5 (nI ((fi + 2 + 1) % 65536))) m7 dt v') := ⟨m7, dt, w', dt, v', rfl, rfl, ok7, by omega, hdt, by omega, by decide, fun _ => ⟨rfl, hst⟩⟩
  by_cases f7 : zmf m7 = 0
  · rw [zyC_t ((zF_iff ok7).mpr f7)]
    exact zx_2 (gl := gl) (gn := g0 % 16) (fi := fi) (nx := fi + 3) (n := 256 * n1 + n2) hL ⟨c3, c15, r7, c14, r8, c16, rfl, rfl, rfl, kw, hgl, Nat.mod_lt _ (by decide), hfi, by omega⟩ hG5 c17
  · have hF : ¬ zF (zC (zz_sp (zz_sp (zz_sp (zz_sp c5 18 0) 18 (0 * 256 + nI n1)) 18 (nI (256 * n1 + n2))) 19 (nI (fi + 3))) m7 dt w') := fun z => f7 ((zF_iff ok7).mp z)
    rw [zyC_f hF, MO_push_rf ok7 f7, zz_bd_s]
    unfold zact
    rw [zz_bd_s]
    exact zyE hG ⟨_, _, ⟨m7, dt, w', dt, v', rfl, rfl, ok7, by omega, by omega, by omega, by decide, fun z => absurd z f7⟩, cX, rX⟩ hF
theorem zy_b {B t g0 fi k dt : Nat} {fr gl cd : Int32} {c r c5 r5 : zz_S} {m5 : zM} {w' v' : Nat → Int32} (hY : zY B t fr gl cd g0 fi k dt c r c5 r5 m5 w' v') (f5 : zmf m5 = 0) (h31 : 31 < k) (hb : k < 40 ∨ 45 < k) (em : zf_more k = -1) : zr (zz_bd (IN_fetch_100 cd (zf_more k) (zC c5 m5 dt w')) fun _ s => zyC s) (zyR fr fi k (zR r5 m5 dt v')) (zPI B) := by
  obtain ⟨ht, hdt, hfi, hk256, ok5, kk5, hst, kw, hgl, c3, c14, c15, c16, c17, r3, h5, r6, r7, r8, rA7, cX, rX, hG, hG5⟩ := hY
  rw [em, IN_fetch_m1 ok5, zz_bd_s]
  have ok9 := za_fail_ok (e := 9) (by decide) ok5
  have f9 : ¬ zmf (za_fail 9 m5) = 0 := by rw [za_fail_0 f5]; exact (by decide : ¬ (9 : Nat) = 0)
  have hF : ¬ zF (zC (zz_sp (zz_sp c5 18 0) 19 (zz_sg c5 16 + 1 + -1)) (za_fail 9 m5) dt w') := fun z => f9 ((zF_iff ok9).mp z)
  rw [zyC_f hF, zyR_t ok5 f5, za_bad (fr := fr) hk256 h31 hb ht (by rw [zR_sg3, r3]) (by rw [zR_ag7, rA7]), MO_wrong_r9 ok5, zz_bd_s, zz_bd_s, zz_bo_1, zz_gd_t]
  unfold zact
  rw [zz_bd_s]
  exact zyE hG ⟨_, _, ⟨za_fail 9 m5, dt, w', dt, v', rfl, rfl, ok9, by rw [za_fail_k]; omega, by omega, by omega, by decide, fun z => absurd z f9⟩, cX, rX⟩ hF
theorem zy_f {B t g0 fi k dt : Nat} {fr gl cd : Int32} {c r c5 r5 : zz_S} {m5 : zM} {w' v' : Nat → Int32} (hY : zY B t fr gl cd g0 fi k dt c r c5 r5 m5 w' v') (f5 : ¬ zmf m5 = 0) : zr (zz_bd (IN_fetch_100 cd (zf_more k) (zC c5 m5 dt w')) fun _ s => zyC s) (zyR fr fi k (zR r5 m5 dt v')) (zPI B) := by
  obtain ⟨ht, hdt, hfi, hk256, ok5, kk5, hst, kw, hgl, c3, c14, c15, c16, c17, r3, h5, r6, r7, r8, rA7, cX, rX, hG, hG5⟩ := hY
  obtain ⟨c6, e6, x6⟩ := IN_fetch_J (c := c5) (d := dt) (w := w') ok5 f5 hk256 cd
  have hF : ¬ zF (zC c6 m5 dt w') := fun z => f5 ((zF_iff ok5).mp z)
  rw [e6, zz_bd_s, zyC_f hF, zyR_f ok5 f5]
  exact zr_mono (zt_f0 (y0 := 0) hG ⟨c6, r5, ⟨m5, dt, w', dt, v', rfl, rfl, ok5, by omega, by omega, by omega, by decide, fun z => absurd z f5⟩, ⟨x6.1.trans cX.1, x6.2.1.trans cX.2.1, x6.2.2.1.trans cX.2.2.1, fun a i => (x6.2.2.2 a i).trans (cX.2.2.2 a i)⟩, rX⟩ hF) (fun _ _ _ _ z => zI0_up z (by omega))
theorem zy_all {B t g0 fi k dt : Nat} {fr gl cd : Int32} {c r c5 r5 : zz_S} {m5 : zM} {w' v' : Nat → Int32} (hY : zY B t fr gl cd g0 fi k dt c r c5 r5 m5 w' v') : zr (zz_bd (IN_fetch_100 cd (zf_more k) (zC c5 m5 dt w')) fun _ s => zyC s) (zyR fr fi k (zR r5 m5 dt v')) (zPI B) := by
  by_cases f5 : zmf m5 = 0
  · rcases zcls k hY.2.2.2.1 with ⟨hv, em⟩ | ⟨hv, em⟩ | ⟨hv, em⟩ | ⟨h31, hb, em⟩
    · exact zy_0 hY f5 hv em
    · exact zy_1 hY f5 hv em
    · exact zy_2 hY f5 hv em
    · exact zy_b hY f5 h31 hb em
  · exact zy_f hY f5
theorem zY_mk {B t g0 fi k dt : Nat} {fr gl cd : Int32} {c r : zz_S} {m5 : zM} {w' v' : Nat → Int32} (hG : zG B t fr c r) (h3 : zz_sg c 3 = fr) (hdt : dt ≤ 8) (hfi : fi < 65536) (hk : k < 256) (ok5 : zm_ok m5) (kk5 : zmk m5 = 0) (hst : ∀ i, i < dt → w' i = v' i ∧ zWd (w' i)) (kw : zWd fr) (hgl : zWd gl) : zY B t fr gl cd g0 fi k dt c r (zz_sp (zz_sp (zz_sp (zz_sp c 14 (nI (g0 % 16))) 15 gl) 16 (nI fi)) 17 (nI k)) (zz_sp (zz_sp (zz_sp (zz_sp r 8 (nI (g0 % 16))) 7 gl) 6 cd) 5 (nI ((fi + 1) % 65536))) m5 w' v' :=
  ⟨hG.1.1, hdt, hfi, hk, ok5, kk5, hst, kw, hgl, h3, rfl, rfl, rfl, rfl, hG.1.2.2.2.1, rfl, rfl, rfl, rfl, hG.1.2.2.2.2, ⟨rfl, rfl, rfl, fun _ _ => rfl⟩, ⟨rfl, fun _ _ _ _ => rfl, fun _ _ => rfl, rfl⟩, hG, hG⟩
theorem PR_step_e (t : Nat) (C : zz_S) : PR_step_f t C = zz_bd (PR_beginWith_f t C) fun _ s_12 => (zz_bd (IN_fetch_f (zz_sg s_12 3) s_12) fun _ s_13 => zyC s_13) := rfl
theorem zstep {B t : Nat} {c r : zz_S} {m : zM} {d e : Nat} {w v : Nat → Int32} (hm : zm_ok m) (hT : zTx B 6 c r) (ht : t < 6) (h7 : zz_ag c 7 t = 1) (h3 : zz_sg r 3 = nI t) (hB : B < 2147483000) (h0 : zz_sg r 0 = 0) : zr (PR_step_f t (zC c m d w)) (MO_instruction_f (zR r m e v)) (zPI B) := by
  have hk : zk c r t := by
    obtain ⟨s, hs, e1, e2, g⟩ := (hT.2 t ht (by omega)).1
    refine g.2.1 (fun z => ?_)
    rw [h7, z] at e1
    exact absurd e1 (by decide)
  have hG := zG_b hT ht h7 h3 hk hB h0
  obtain ⟨k8, k9, kw, dt, hdt, k10, k11, k12⟩ := hk
  obtain ⟨w', eC, hw'⟩ := PR_begin_e (m := m) (d := d) (w := w) hdt k10
  obtain ⟨v', eR, hv'⟩ := MO_begin_e (m := m) (e := e) (v := v) ht h3 k9.symm k11
  have hst : ∀ i, i < dt → w' i = v' i ∧ zWd (w' i) := fun i hi => by
    rw [hw' i hi, hv' i (by omega)]
    exact k12 i hi
  have ok0 : zm_ok (zb_m m) := zb_ok hm
  have kk5 : zmk (zf_5 (zz_ag c 9 t) (zb_m m)).2 = 0 := (zf_k5 (zz_ag c 9 t) (zb_m m)).trans rfl
  obtain ⟨fi, hfi, efi⟩ : ∃ fi, fi < 65536 ∧ (zf_4 (zz_ag c 9 t) (zb_m m)).1 = nI fi := za_read_w _ (zf_ok3 ok0)
  obtain ⟨g0, hg0, eg0⟩ : ∃ g, g < 65536 ∧ (zf_1 (zz_ag c 9 t) (zb_m m)).1 = nI g := za_read_w _ ok0
  obtain ⟨k, hk256, ek⟩ : ∃ k, k < 256 ∧ (zf_5 (zz_ag c 9 t) (zb_m m)).1 = nI k := za_byte_w _ _ (zf_ok4 ok0)
  have eg : (zf_1 (zz_ag c 9 t) (zb_m m)).1 &&& 15 = nI (g0 % 16) := by rw [eg0, zi_15]
  have ec : zf_c (zb0 t c) (zz_ag c 9 t) (zb_m m) = zz_sp (zz_sp (zz_sp (zz_sp (zb0 t c) 14 (nI (g0 % 16))) 15 (zf_2 (zz_ag c 9 t) (zb_m m)).1) 16 (nI fi)) 17 (nI k) := by
    unfold zf_c
    rw [eg, efi, ek]
  have er : zf_r (zb1 r) (zz_ag c 9 t) fi (zb_m m) = zz_sp (zz_sp (zz_sp (zz_sp (zb1 r) 8 (nI (g0 % 16))) 7 (zf_2 (zz_ag c 9 t) (zb_m m)).1) 6 (zf_3 (zz_ag c 9 t) (zb_m m)).1) 5 (nI ((fi + 1) % 65536)) := by
    unfold zf_r
    rw [eg]
  have hgl : zWd (zf_2 (zz_ag c 9 t) (zb_m m)).1 := za_read_w _ (zf_ok1 ok0)
  have ok5 : zm_ok (zf_5 (zz_ag c 9 t) (zb_m m)).2 := zf_ok5 ok0
  rw [PR_step_e, eC, zz_bd_s, zC_sg3, show zz_sg (zb0 t c) 3 = zz_ag c 9 t from rfl, IN_fetch_e ok0 _ ek hk256, eR, MO_fetch_e ok0 hfi efi, ek, ec, er]
  generalize (zf_2 (zz_ag c 9 t) (zb_m m)).1 = gl at hgl ⊢
  generalize (zf_3 (zz_ag c 9 t) (zb_m m)).1 = cd
  generalize (zf_5 (zz_ag c 9 t) (zb_m m)).2 = m5 at ok5 kk5 ⊢
  exact zy_all (zY_mk hG rfl hdt hfi hk256 ok5 kk5 hst kw hgl)
