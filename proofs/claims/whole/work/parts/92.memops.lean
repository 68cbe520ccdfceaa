/-! what both memories do -/
def za_fail (e : Nat) (m : zM) : zM := if zmf m = 0 then zmsf m e else m
def za_pl (m : zM) (x : Int32) : Nat := 256 * (zmA m (zi_p x)).toNatClampNeg + zi_o x
def za_read (x : Int32) (m : zM) : Int32 × zM :=
  if zmf m = 0 then (if zmA m (zi_p x) = -1 then (0, zmsf m 1) else (zmW m (za_pl m x), zmsN m (upd (zmN m) (zmA m (zi_p x)).toNatClampNeg (zmN m (zmA m (zi_p x)).toNatClampNeg ||| 1)))) else (0, m)
def za_write (x v : Int32) (m : zM) : zM :=
  if zmf m = 0 then (if zmA m (zi_p x) = -1 then zmsf m 1 else if zmG m (zi_p x) = 0 then
    (upd (zmW m) (za_pl m x) (v &&& 65535), upd (zmN m) (zmA m (zi_p x)).toNatClampNeg 3, upd (zmP m) (zmk m) (nI (za_pl m x)), upd (zmB m) (zmk m) (zmW m (za_pl m x)), zmA m, zmG m, zmk m + 1, zmf m) else zmsf m 2) else m
def zm_ok (m : zM) : Prop := (∀ i, ∃ w, w < 65536 ∧ zmW m i = nI w) ∧ (∀ i, ∃ w, w < 4 ∧ zmN m i = nI w) ∧ (∀ i, ∃ w, w < 3072 ∧ zmP m i = nI w) ∧ (∀ i, ∃ w, w < 65536 ∧ zmB m i = nI w) ∧ (∀ p, p < 16 → zmA m p = -1 ∨ ∃ k, k < 12 ∧ zmA m p = nI k) ∧ (∀ i, zmG m i = 0 ∨ zmG m i = 1) ∧ zmf m < 16
theorem zm_fl {m : zM} (h : zm_ok m) : zmf m < 2 ^ 31 := Nat.lt_trans h.2.2.2.2.2.2 (by decide)
theorem zm_f0 {m : zM} (h : zm_ok m) : (nI (zmf m) = 0) = (zmf m = 0) := propext (zi_z (zm_fl h))
theorem zm_f1 {m : zM} (h : zm_ok m) : (nI (zmf m) ≤ 0) = (zmf m = 0) := propext (zi_le0 (zm_fl h))
theorem zm_f2 {m : zM} (h : zm_ok m) : (0 < nI (zmf m)) = ¬ (zmf m = 0) := propext (zi_lt0 (zm_fl h))
theorem zu_same (f : Nat → Int32) (i : Nat) (v : Int32) : upd f i v i = v := if_pos rfl
theorem zu_all {P : Int32 → Prop} {f : Nat → Int32} {i : Nat} {v : Int32} (h : ∀ j, P (f j)) (hv : P v) : ∀ j, P (upd f i v j) := by
  intro j
  unfold upd
  split
  · exact hv
  · exact h j
theorem za_fail_ok {e : Nat} (he : e < 16) {m : zM} (h : zm_ok m) : zm_ok (za_fail e m) := by
  unfold za_fail
  split
  · exact ⟨h.1, h.2.1, h.2.2.1, h.2.2.2.1, h.2.2.2.2.1, h.2.2.2.2.2.1, he⟩
  · exact h
theorem zmsf_ok {e : Nat} (he : e < 16) {m : zM} (h : zm_ok m) : zm_ok (zmsf m e) := ⟨h.1, h.2.1, h.2.2.1, h.2.2.2.1, h.2.2.2.2.1, h.2.2.2.2.2.1, he⟩
theorem za_pl_lt {m : zM} (hm : zm_ok m) (x : Int32) : za_pl m x < 3072 := by
  unfold za_pl
  have ho := zi_o_lt x
  rcases hm.2.2.2.2.1 _ (zi_p_lt x) with h | ⟨k, hk, h⟩
  · rw [h]
    have : (-1 : Int32).toNatClampNeg = 0 := by decide
    omega
  · rw [h, nI_clamp (by omega)]; omega
theorem za_read_ok {m : zM} (x : Int32) (h : zm_ok m) : zm_ok (za_read x m).2 := by
  unfold za_read
  split
  · split
    · exact zmsf_ok (by decide) h
    · refine ⟨h.1, zu_all (P := fun v => ∃ w, w < 4 ∧ v = nI w) h.2.1 ?_, h.2.2.1, h.2.2.2.1, h.2.2.2.2⟩
      obtain ⟨w, hw, e⟩ := h.2.1 (zmA m (zi_p x)).toNatClampNeg
      rw [e]; exact zi_or1 w hw
  · exact h
theorem za_read_w {m : zM} (x : Int32) (h : zm_ok m) : ∃ w, w < 65536 ∧ (za_read x m).1 = nI w := by
  unfold za_read
  split
  · split
    · exact ⟨0, by decide, nI_0.symm⟩
    · exact h.1 _
  · exact ⟨0, by decide, nI_0.symm⟩
theorem za_read_k (x : Int32) (m : zM) : zmk (za_read x m).2 = zmk m := by
  unfold za_read
  split
  · split <;> rfl
  · rfl
theorem za_read_f {x : Int32} {m : zM} (h : ¬ zmf m = 0) : za_read x m = (0, m) := by
  unfold za_read
  rw [if_neg h]
theorem za_write_f {x v : Int32} {m : zM} (h : ¬ zmf m = 0) : za_write x v m = m := by
  unfold za_write
  rw [if_neg h]
theorem za_fail_f {e : Nat} {m : zM} (h : ¬ zmf m = 0) : za_fail e m = m := by
  unfold za_fail
  rw [if_neg h]
theorem za_fail_0 {e : Nat} {m : zM} (h : zmf m = 0) : za_fail e m = zmsf m e := by
  unfold za_fail
  rw [if_pos h]
theorem za_write_ok {m : zM} (x v : Int32) (h : zm_ok m) : zm_ok (za_write x v m) := by
  unfold za_write
  split
  · split
    · exact zmsf_ok (by decide) h
    · split
      · exact ⟨zu_all (P := fun v => ∃ w, w < 65536 ∧ v = nI w) h.1 (zi_w v), zu_all (P := fun v => ∃ w, w < 4 ∧ v = nI w) h.2.1 ⟨3, by decide, by decide⟩, zu_all (P := fun v => ∃ w, w < 3072 ∧ v = nI w) h.2.2.1 ⟨_, za_pl_lt h x, rfl⟩, zu_all (P := fun v => ∃ w, w < 65536 ∧ v = nI w) h.2.2.2.1 (h.1 _), h.2.2.2.2⟩
      · exact zmsf_ok (by decide) h
  · exact h
theorem za_write_k (x v : Int32) (m : zM) : zmk (za_write x v m) ≤ zmk m + 1 := by
  unfold za_write
  split
  · split
    · exact Nat.le_succ _
    · split
      · exact Nat.le_refl _
      · exact Nat.le_succ _
  · exact Nat.le_succ _
theorem za_fail_k (e : Nat) (m : zM) : zmk (za_fail e m) = zmk m := by
  unfold za_fail
  split <;> rfl
/-! the component's -/
theorem ME_fail_C (e : Nat) {c : zz_S} {m : zM} (h : zm_ok m) : ME_fail_f (nI e) (zpC c m) = some ((), zpC c (za_fail e m)) := by
  simp only [ME_fail_f, za_fail, zpC_sg0, zpC_sg1, zpC_sg2, zpC_sg3, zpC_sg4, zpC_sg5, zpC_sg6, zpC_sg7, zpC_sg8, zpC_sg9, zpC_sg10, zpC_sg11, zpC_sg12, zpC_sg13, zpC_sg14, zpC_sg15, zpC_sg16, zpC_sg17, zpC_sg18, zpC_sg19, zpC_ag0, zpC_ag1, zpC_ag2, zpC_ag3, zpC_ag4, zpC_ag5, zpC_ag6, zpC_ag7, zpC_ag8, zpC_ag9, zpC_ag10, zpC_ag11, zpC_ag12, zpC_ag13, zpC_ag14, zpC_sp0, zpC_sp1, zpC_sp2, zpC_sp3, zpC_sp4, zpC_sp5, zpC_sp6, zpC_sp7, zpC_sp8, zpC_sp9, zpC_sp10, zpC_sp11, zpC_sp12, zpC_sp13, zpC_sp14, zpC_sp15, zpC_sp16, zpC_sp17, zpC_sp18, zpC_sp19, zpC_ap0, zpC_ap1, zpC_ap2, zpC_ap3, zpC_ap4, zpC_ap5, zpC_ap6, zpC_ap7, zpC_ap8, zpC_ap9, zpC_ap10, zpC_ap11, zpC_ap12, zpC_ap13, zpC_ap14, zpC_qg, zpC_lg, zpC_qp, zpC_lp, zpC_ag20, zpC_ap20, zz_bd_s, zz_gd_t, zz_nm_e, zz_oc_s, zz_oc_n, zm_f0 h]
  split <;> rfl
theorem ME_read_C {c : zz_S} {m : zM} (h : zm_ok m) (x : Int32) : ME_read_f x (zpC c m) = some ((za_read x m).1, zpC c (za_read x m).2) := by
  have e1 : nI 1 = (1 : Int32) := by decide
  simp only [ME_read_f, zz_bd_s, zz_gd_t, zz_nm_e, zz_oc_s, zz_oc_n, zi_page, zi_in (N := 16) (by decide) (zi_p_lt x), nI_clamp (Nat.lt_trans (zi_p_lt x) (by decide)), zpC_sg1, zpC_ag1, zm_f0 h]
  show (if zmf m = 0 then _ else _) = _
  unfold za_read
  by_cases hf : zmf m = 0
  · simp only [eq_true hf, if_true]
    rcases h.2.2.2.2.1 _ (zi_p_lt x) with hm | ⟨k, hk, hm⟩
    · simp only [hm, if_true, ME_read_30, ← e1, zpC_sg0, zpC_sg1, zpC_sg2, zpC_sg3, zpC_sg4, zpC_sg5, zpC_sg6, zpC_sg7, zpC_sg8, zpC_sg9, zpC_sg10, zpC_sg11, zpC_sg12, zpC_sg13, zpC_sg14, zpC_sg15, zpC_sg16, zpC_sg17, zpC_sg18, zpC_sg19, zpC_ag0, zpC_ag1, zpC_ag2, zpC_ag3, zpC_ag4, zpC_ag5, zpC_ag6, zpC_ag7, zpC_ag8, zpC_ag9, zpC_ag10, zpC_ag11, zpC_ag12, zpC_ag13, zpC_ag14, zpC_sp0, zpC_sp1, zpC_sp2, zpC_sp3, zpC_sp4, zpC_sp5, zpC_sp6, zpC_sp7, zpC_sp8, zpC_sp9, zpC_sp10, zpC_sp11, zpC_sp12, zpC_sp13, zpC_sp14, zpC_sp15, zpC_sp16, zpC_sp17, zpC_sp18, zpC_sp19, zpC_ap0, zpC_ap1, zpC_ap2, zpC_ap3, zpC_ap4, zpC_ap5, zpC_ap6, zpC_ap7, zpC_ap8, zpC_ap9, zpC_ap10, zpC_ap11, zpC_ap12, zpC_ap13, zpC_ap14, zpC_qg, zpC_lg, zpC_qp, zpC_lp, zpC_ag20, zpC_ap20, zm_f0 (zmsf_ok (e := 1) (by decide) h), zmW_W, zmW_N, zmW_P, zmW_B, zmW_A, zmW_G, zmW_k, zmW_f, zmN_W, zmN_N, zmN_P, zmN_B, zmN_A, zmN_G, zmN_k, zmN_f, zmP_W, zmP_N, zmP_P, zmP_B, zmP_A, zmP_G, zmP_k, zmP_f, zmB_W, zmB_N, zmB_P, zmB_B, zmB_A, zmB_G, zmB_k, zmB_f, zmA_W, zmA_N, zmA_P, zmA_B, zmA_A, zmA_G, zmA_k, zmA_f, zmG_W, zmG_N, zmG_P, zmG_B, zmG_A, zmG_G, zmG_k, zmG_f, zmk_W, zmk_N, zmk_P, zmk_B, zmk_A, zmk_G, zmk_k, zmk_f, zmf_W, zmf_N, zmf_P, zmf_B, zmf_A, zmf_G, zmf_k, zmf_f]
      rfl
    · have hk' : k < 2 ^ 31 := by omega
      have hpl : za_pl m x = 256 * k + zi_o x := by unfold za_pl; rw [hm, nI_clamp hk']
      have hpl2 := za_pl_lt h x
      rw [hpl] at hpl2
      simp only [hm, zi_m1 hk', if_false, ME_read_30, zpC_sg0, zpC_sg1, zpC_sg2, zpC_sg3, zpC_sg4, zpC_sg5, zpC_sg6, zpC_sg7, zpC_sg8, zpC_sg9, zpC_sg10, zpC_sg11, zpC_sg12, zpC_sg13, zpC_sg14, zpC_sg15, zpC_sg16, zpC_sg17, zpC_sg18, zpC_sg19, zpC_ag0, zpC_ag1, zpC_ag2, zpC_ag3, zpC_ag4, zpC_ag5, zpC_ag6, zpC_ag7, zpC_ag8, zpC_ag9, zpC_ag10, zpC_ag11, zpC_ag12, zpC_ag13, zpC_ag14, zpC_sp0, zpC_sp1, zpC_sp2, zpC_sp3, zpC_sp4, zpC_sp5, zpC_sp6, zpC_sp7, zpC_sp8, zpC_sp9, zpC_sp10, zpC_sp11, zpC_sp12, zpC_sp13, zpC_sp14, zpC_sp15, zpC_sp16, zpC_sp17, zpC_sp18, zpC_sp19, zpC_ap0, zpC_ap1, zpC_ap2, zpC_ap3, zpC_ap4, zpC_ap5, zpC_ap6, zpC_ap7, zpC_ap8, zpC_ap9, zpC_ap10, zpC_ap11, zpC_ap12, zpC_ap13, zpC_ap14, zpC_qg, zpC_lg, zpC_qp, zpC_lp, zpC_ag20, zpC_ap20, zm_f0 h, eq_true hf, if_true, zz_bd_s, zz_gd_t, zz_nm_e, zz_oc_s, zz_oc_n, zi_in (N := 12) (by decide) hk, nI_clamp hk', zi_off, zi_place, zi_in (N := 3072) (by decide) hpl2, hpl, zmW_W, zmW_N, zmW_P, zmW_B, zmW_A, zmW_G, zmW_k, zmW_f, zmN_W, zmN_N, zmN_P, zmN_B, zmN_A, zmN_G, zmN_k, zmN_f, zmP_W, zmP_N, zmP_P, zmP_B, zmP_A, zmP_G, zmP_k, zmP_f, zmB_W, zmB_N, zmB_P, zmB_B, zmB_A, zmB_G, zmB_k, zmB_f, zmA_W, zmA_N, zmA_P, zmA_B, zmA_A, zmA_G, zmA_k, zmA_f, zmG_W, zmG_N, zmG_P, zmG_B, zmG_A, zmG_G, zmG_k, zmG_f, zmk_W, zmk_N, zmk_P, zmk_B, zmk_A, zmk_G, zmk_k, zmk_f, zmf_W, zmf_N, zmf_P, zmf_B, zmf_A, zmf_G, zmf_k, zmf_f, nI_clamp (Nat.lt_trans hpl2 (by decide))]
  · simp only [hf, if_false, ME_read_30, zpC_sg0, zpC_sg1, zpC_sg2, zpC_sg3, zpC_sg4, zpC_sg5, zpC_sg6, zpC_sg7, zpC_sg8, zpC_sg9, zpC_sg10, zpC_sg11, zpC_sg12, zpC_sg13, zpC_sg14, zpC_sg15, zpC_sg16, zpC_sg17, zpC_sg18, zpC_sg19, zpC_ag0, zpC_ag1, zpC_ag2, zpC_ag3, zpC_ag4, zpC_ag5, zpC_ag6, zpC_ag7, zpC_ag8, zpC_ag9, zpC_ag10, zpC_ag11, zpC_ag12, zpC_ag13, zpC_ag14, zpC_sp0, zpC_sp1, zpC_sp2, zpC_sp3, zpC_sp4, zpC_sp5, zpC_sp6, zpC_sp7, zpC_sp8, zpC_sp9, zpC_sp10, zpC_sp11, zpC_sp12, zpC_sp13, zpC_sp14, zpC_sp15, zpC_sp16, zpC_sp17, zpC_sp18, zpC_sp19, zpC_ap0, zpC_ap1, zpC_ap2, zpC_ap3, zpC_ap4, zpC_ap5, zpC_ap6, zpC_ap7, zpC_ap8, zpC_ap9, zpC_ap10, zpC_ap11, zpC_ap12, zpC_ap13, zpC_ap14, zpC_qg, zpC_lg, zpC_qp, zpC_lp, zpC_ag20, zpC_ap20, zm_f0 h]
theorem ME_write_C {c : zz_S} {m : zM} (h : zm_ok m) (hk16 : zmk m < 16) (x v : Int32) : ME_write_f x v (zpC c m) = some ((), zpC c (za_write x v m)) := by
  have e1 : nI 1 = (1 : Int32) := by decide
  have e2 : nI 2 = (2 : Int32) := by decide
  have e16 : (16 : Int32) = nI 16 := by decide
  simp only [ME_write_f, zz_bd_s, zz_gd_t, zz_nm_e, zz_oc_s, zz_oc_n, zi_page, zi_in (N := 16) (by decide) (zi_p_lt x), nI_clamp (Nat.lt_trans (zi_p_lt x) (by decide)), zpC_sg1, zpC_ag1, zm_f0 h]
  show (if zmf m = 0 then _ else _) = _
  unfold za_write
  by_cases hf : zmf m = 0
  · simp only [eq_true hf, if_true]
    rcases h.2.2.2.2.1 _ (zi_p_lt x) with hm | ⟨k, hk, hm⟩
    · simp only [hm, if_true, ME_write_58, ← e1, zpC_sg0, zpC_sg1, zpC_sg2, zpC_sg3, zpC_sg4, zpC_sg5, zpC_sg6, zpC_sg7, zpC_sg8, zpC_sg9, zpC_sg10, zpC_sg11, zpC_sg12, zpC_sg13, zpC_sg14, zpC_sg15, zpC_sg16, zpC_sg17, zpC_sg18, zpC_sg19, zpC_ag0, zpC_ag1, zpC_ag2, zpC_ag3, zpC_ag4, zpC_ag5, zpC_ag6, zpC_ag7, zpC_ag8, zpC_ag9, zpC_ag10, zpC_ag11, zpC_ag12, zpC_ag13, zpC_ag14, zpC_sp0, zpC_sp1, zpC_sp2, zpC_sp3, zpC_sp4, zpC_sp5, zpC_sp6, zpC_sp7, zpC_sp8, zpC_sp9, zpC_sp10, zpC_sp11, zpC_sp12, zpC_sp13, zpC_sp14, zpC_sp15, zpC_sp16, zpC_sp17, zpC_sp18, zpC_sp19, zpC_ap0, zpC_ap1, zpC_ap2, zpC_ap3, zpC_ap4, zpC_ap5, zpC_ap6, zpC_ap7, zpC_ap8, zpC_ap9, zpC_ap10, zpC_ap11, zpC_ap12, zpC_ap13, zpC_ap14, zpC_qg, zpC_lg, zpC_qp, zpC_lp, zpC_ag20, zpC_ap20, zm_f0 (zmsf_ok (e := 1) (by decide) h), zmW_W, zmW_N, zmW_P, zmW_B, zmW_A, zmW_G, zmW_k, zmW_f, zmN_W, zmN_N, zmN_P, zmN_B, zmN_A, zmN_G, zmN_k, zmN_f, zmP_W, zmP_N, zmP_P, zmP_B, zmP_A, zmP_G, zmP_k, zmP_f, zmB_W, zmB_N, zmB_P, zmB_B, zmB_A, zmB_G, zmB_k, zmB_f, zmA_W, zmA_N, zmA_P, zmA_B, zmA_A, zmA_G, zmA_k, zmA_f, zmG_W, zmG_N, zmG_P, zmG_B, zmG_A, zmG_G, zmG_k, zmG_f, zmk_W, zmk_N, zmk_P, zmk_B, zmk_A, zmk_G, zmk_k, zmk_f, zmf_W, zmf_N, zmf_P, zmf_B, zmf_A, zmf_G, zmf_k, zmf_f]
      rfl
    · have hk' : k < 2 ^ 31 := by omega
      have hpl : za_pl m x = 256 * k + zi_o x := by unfold za_pl; rw [hm, nI_clamp hk']
      have hpl2 := za_pl_lt h x
      rw [hpl] at hpl2
      have hkk : zmk m < 2 ^ 31 := by omega
      obtain ⟨w, hw, hn⟩ := h.2.1 k
      simp only [hm, zi_m1 hk', if_false, ME_write_37, zpC_sg0, zpC_sg1, zpC_sg2, zpC_sg3, zpC_sg4, zpC_sg5, zpC_sg6, zpC_sg7, zpC_sg8, zpC_sg9, zpC_sg10, zpC_sg11, zpC_sg12, zpC_sg13, zpC_sg14, zpC_sg15, zpC_sg16, zpC_sg17, zpC_sg18, zpC_sg19, zpC_ag0, zpC_ag1, zpC_ag2, zpC_ag3, zpC_ag4, zpC_ag5, zpC_ag6, zpC_ag7, zpC_ag8, zpC_ag9, zpC_ag10, zpC_ag11, zpC_ag12, zpC_ag13, zpC_ag14, zpC_sp0, zpC_sp1, zpC_sp2, zpC_sp3, zpC_sp4, zpC_sp5, zpC_sp6, zpC_sp7, zpC_sp8, zpC_sp9, zpC_sp10, zpC_sp11, zpC_sp12, zpC_sp13, zpC_sp14, zpC_sp15, zpC_sp16, zpC_sp17, zpC_sp18, zpC_sp19, zpC_ap0, zpC_ap1, zpC_ap2, zpC_ap3, zpC_ap4, zpC_ap5, zpC_ap6, zpC_ap7, zpC_ap8, zpC_ap9, zpC_ap10, zpC_ap11, zpC_ap12, zpC_ap13, zpC_ap14, zpC_qg, zpC_lg, zpC_qp, zpC_lp, zpC_ag20, zpC_ap20, zm_f0 h, eq_true hf, if_true, zz_bd_s, zz_gd_t, zz_nm_e, zz_oc_s, zz_oc_n, zi_in (N := 16) (by decide) (zi_p_lt x), nI_clamp (Nat.lt_trans (zi_p_lt x) (by decide))]
      by_cases hgd : zmG m (zi_p x) = 0
      · simp only [hgd, if_true, ME_write_58, zpC_sg0, zpC_sg1, zpC_sg2, zpC_sg3, zpC_sg4, zpC_sg5, zpC_sg6, zpC_sg7, zpC_sg8, zpC_sg9, zpC_sg10, zpC_sg11, zpC_sg12, zpC_sg13, zpC_sg14, zpC_sg15, zpC_sg16, zpC_sg17, zpC_sg18, zpC_sg19, zpC_ag0, zpC_ag1, zpC_ag2, zpC_ag3, zpC_ag4, zpC_ag5, zpC_ag6, zpC_ag7, zpC_ag8, zpC_ag9, zpC_ag10, zpC_ag11, zpC_ag12, zpC_ag13, zpC_ag14, zpC_sp0, zpC_sp1, zpC_sp2, zpC_sp3, zpC_sp4, zpC_sp5, zpC_sp6, zpC_sp7, zpC_sp8, zpC_sp9, zpC_sp10, zpC_sp11, zpC_sp12, zpC_sp13, zpC_sp14, zpC_sp15, zpC_sp16, zpC_sp17, zpC_sp18, zpC_sp19, zpC_ap0, zpC_ap1, zpC_ap2, zpC_ap3, zpC_ap4, zpC_ap5, zpC_ap6, zpC_ap7, zpC_ap8, zpC_ap9, zpC_ap10, zpC_ap11, zpC_ap12, zpC_ap13, zpC_ap14, zpC_qg, zpC_lg, zpC_qp, zpC_lp, zpC_ag20, zpC_ap20, zm_f0 h, eq_true hf, zz_bd_s, zz_gd_t, zz_nm_e, zz_oc_s, zz_oc_n, e16, nI_ltI hkk (show 16 < 2 ^ 31 by decide), hk16, zi_in (N := 12) (by decide) hk, zi_in (N := 16) (by decide) hk16, nI_clamp hk', nI_clamp hkk, zi_off, zi_place, zi_in (N := 3072) (by decide) hpl2, hpl, zmW_W, zmW_N, zmW_P, zmW_B, zmW_A, zmW_G, zmW_k, zmW_f, zmN_W, zmN_N, zmN_P, zmN_B, zmN_A, zmN_G, zmN_k, zmN_f, zmP_W, zmP_N, zmP_P, zmP_B, zmP_A, zmP_G, zmP_k, zmP_f, zmB_W, zmB_N, zmB_P, zmB_B, zmB_A, zmB_G, zmB_k, zmB_f, zmA_W, zmA_N, zmA_P, zmA_B, zmA_A, zmA_G, zmA_k, zmA_f, zmG_W, zmG_N, zmG_P, zmG_B, zmG_A, zmG_G, zmG_k, zmG_f, zmk_W, zmk_N, zmk_P, zmk_B, zmk_A, zmk_G, zmk_k, zmk_f, zmf_W, zmf_N, zmf_P, zmf_B, zmf_A, zmf_G, zmf_k, zmf_f, nI_clamp (Nat.lt_trans hpl2 (by decide)), nI_1, hn, zi_or3 w hw]
        rfl
      · simp only [hgd, if_false, ME_write_58, ← e2, zpC_sg0, zpC_sg1, zpC_sg2, zpC_sg3, zpC_sg4, zpC_sg5, zpC_sg6, zpC_sg7, zpC_sg8, zpC_sg9, zpC_sg10, zpC_sg11, zpC_sg12, zpC_sg13, zpC_sg14, zpC_sg15, zpC_sg16, zpC_sg17, zpC_sg18, zpC_sg19, zpC_ag0, zpC_ag1, zpC_ag2, zpC_ag3, zpC_ag4, zpC_ag5, zpC_ag6, zpC_ag7, zpC_ag8, zpC_ag9, zpC_ag10, zpC_ag11, zpC_ag12, zpC_ag13, zpC_ag14, zpC_sp0, zpC_sp1, zpC_sp2, zpC_sp3, zpC_sp4, zpC_sp5, zpC_sp6, zpC_sp7, zpC_sp8, zpC_sp9, zpC_sp10, zpC_sp11, zpC_sp12, zpC_sp13, zpC_sp14, zpC_sp15, zpC_sp16, zpC_sp17, zpC_sp18, zpC_sp19, zpC_ap0, zpC_ap1, zpC_ap2, zpC_ap3, zpC_ap4, zpC_ap5, zpC_ap6, zpC_ap7, zpC_ap8, zpC_ap9, zpC_ap10, zpC_ap11, zpC_ap12, zpC_ap13, zpC_ap14, zpC_qg, zpC_lg, zpC_qp, zpC_lp, zpC_ag20, zpC_ap20, zm_f0 (zmsf_ok (e := 2) (by decide) h), zmW_W, zmW_N, zmW_P, zmW_B, zmW_A, zmW_G, zmW_k, zmW_f, zmN_W, zmN_N, zmN_P, zmN_B, zmN_A, zmN_G, zmN_k, zmN_f, zmP_W, zmP_N, zmP_P, zmP_B, zmP_A, zmP_G, zmP_k, zmP_f, zmB_W, zmB_N, zmB_P, zmB_B, zmB_A, zmB_G, zmB_k, zmB_f, zmA_W, zmA_N, zmA_P, zmA_B, zmA_A, zmA_G, zmA_k, zmA_f, zmG_W, zmG_N, zmG_P, zmG_B, zmG_A, zmG_G, zmG_k, zmG_f, zmk_W, zmk_N, zmk_P, zmk_B, zmk_A, zmk_G, zmk_k, zmk_f, zmf_W, zmf_N, zmf_P, zmf_B, zmf_A, zmf_G, zmf_k, zmf_f]
        rfl
  · simp only [hf, if_false, ME_write_37, ME_write_58, zpC_sg0, zpC_sg1, zpC_sg2, zpC_sg3, zpC_sg4, zpC_sg5, zpC_sg6, zpC_sg7, zpC_sg8, zpC_sg9, zpC_sg10, zpC_sg11, zpC_sg12, zpC_sg13, zpC_sg14, zpC_sg15, zpC_sg16, zpC_sg17, zpC_sg18, zpC_sg19, zpC_ag0, zpC_ag1, zpC_ag2, zpC_ag3, zpC_ag4, zpC_ag5, zpC_ag6, zpC_ag7, zpC_ag8, zpC_ag9, zpC_ag10, zpC_ag11, zpC_ag12, zpC_ag13, zpC_ag14, zpC_sp0, zpC_sp1, zpC_sp2, zpC_sp3, zpC_sp4, zpC_sp5, zpC_sp6, zpC_sp7, zpC_sp8, zpC_sp9, zpC_sp10, zpC_sp11, zpC_sp12, zpC_sp13, zpC_sp14, zpC_sp15, zpC_sp16, zpC_sp17, zpC_sp18, zpC_sp19, zpC_ap0, zpC_ap1, zpC_ap2, zpC_ap3, zpC_ap4, zpC_ap5, zpC_ap6, zpC_ap7, zpC_ap8, zpC_ap9, zpC_ap10, zpC_ap11, zpC_ap12, zpC_ap13, zpC_ap14, zpC_qg, zpC_lg, zpC_qp, zpC_lp, zpC_ag20, zpC_ap20, zm_f0 h]
/-! the reference's -/
theorem MO_wrong_M (e : Nat) {r : zz_S} {m : zM} (h : zm_ok m) : MO_wrong_f (nI e) (zpM r m) = some ((), zpM r (za_fail e m)) := by
  simp only [MO_wrong_f, MO_wrong_16, za_fail, zpM_sg0, zpM_sg1, zpM_sg2, zpM_sg3, zpM_sg4, zpM_sg5, zpM_sg6, zpM_sg7, zpM_sg8, zpM_sg9, zpM_sg10, zpM_sg11, zpM_sg12, zpM_sg13, zpM_ag0, zpM_ag1, zpM_ag2, zpM_ag3, zpM_ag4, zpM_ag5, zpM_ag6, zpM_ag7, zpM_ag8, zpM_ag9, zpM_ag10, zpM_ag11, zpM_ag12, zpM_ag13, zpM_ag14, zpM_ag15, zpM_ag16, zpM_ag17, zpM_sp0, zpM_sp1, zpM_sp2, zpM_sp3, zpM_sp4, zpM_sp5, zpM_sp6, zpM_sp7, zpM_sp8, zpM_sp9, zpM_sp10, zpM_sp11, zpM_sp12, zpM_sp13, zpM_ap0, zpM_ap1, zpM_ap2, zpM_ap3, zpM_ap4, zpM_ap5, zpM_ap6, zpM_ap7, zpM_ap8, zpM_ap9, zpM_ap10, zpM_ap11, zpM_ap12, zpM_ap13, zpM_ap14, zpM_ap15, zpM_ap16, zpM_ap17, zpM_qg, zpM_lg, zpM_qp, zpM_lp, zz_bd_s, zz_gd_t, zz_nm_e, zz_oc_s, zz_oc_n, zm_f0 h]
  split
  · rfl
  · rfl
theorem MO_at_M {r : zz_S} {m : zM} (h : zm_ok m) (x : Int32) : MO_at_f x (zpM r m) = some (if zmA m (zi_p x) = -1 then -1 else nI (za_pl m x), zpM r m) := by
  simp only [MO_at_f, zz_bd_s, zz_gd_t, zz_nm_e, zz_oc_s, zz_oc_n, zi_page', zi_in (N := 16) (by decide) (zi_p_lt x), nI_clamp (Nat.lt_trans (zi_p_lt x) (by decide)), zpM_ag1, zi_off']
  rcases h.2.2.2.2.1 _ (zi_p_lt x) with hm | ⟨k, hk, hm⟩
  · rw [hm, if_neg (by decide), if_pos rfl]
  · have hk' : k < 2 ^ 31 := by omega
    rw [hm, if_pos (nI_pos' hk'), if_neg (zi_m1 hk'), zi_place']
    unfold za_pl
    rw [hm, nI_clamp hk']
theorem MO_read_M {r : zz_S} {m : zM} (h : zm_ok m) (x : Int32) : MO_read_f x (zpM r m) = some ((za_read x m).1, zpM r (za_read x m).2) := by
  have e1 : nI 1 = (1 : Int32) := by decide
  simp only [MO_read_f, zpM_sg2, zm_f1 h, MO_at_M h, zz_bd_s, zz_gd_t, zz_nm_e, zz_oc_s, zz_oc_n]
  unfold za_read
  by_cases hf : zmf m = 0
  · simp only [eq_true hf, if_true]
    rcases h.2.2.2.2.1 _ (zi_p_lt x) with hm | ⟨k, hk, hm⟩
    · rw [if_pos hm, if_pos hm, if_neg (by decide), ← e1, MO_wrong_M 1 h, za_fail_0 hf]; rfl
    · have hk' : k < 2 ^ 31 := by omega
      have hpl : za_pl m x = 256 * k + zi_o x := by unfold za_pl; rw [hm, nI_clamp hk']
      have hpl2 := za_pl_lt h x
      rw [hpl] at hpl2
      have hpl3 := Nat.lt_trans hpl2 (show 3072 < 2 ^ 31 by decide)
      simp only [hm, zi_m1 hk', if_false, hpl, nI_pos' hpl3, if_true, zi_back hk (zi_o_lt x), zi_in (N := 12) (by decide) hk, zi_in (N := 3072) (by decide) hpl2, nI_clamp hk', nI_clamp hpl3, zz_bd_s, zz_gd_t, zz_nm_e, zz_oc_s, zz_oc_n, zpM_sg0, zpM_sg1, zpM_sg2, zpM_sg3, zpM_sg4, zpM_sg5, zpM_sg6, zpM_sg7, zpM_sg8, zpM_sg9, zpM_sg10, zpM_sg11, zpM_sg12, zpM_sg13, zpM_ag0, zpM_ag1, zpM_ag2, zpM_ag3, zpM_ag4, zpM_ag5, zpM_ag6, zpM_ag7, zpM_ag8, zpM_ag9, zpM_ag10, zpM_ag11, zpM_ag12, zpM_ag13, zpM_ag14, zpM_ag15, zpM_ag16, zpM_ag17, zpM_sp0, zpM_sp1, zpM_sp2, zpM_sp3, zpM_sp4, zpM_sp5, zpM_sp6, zpM_sp7, zpM_sp8, zpM_sp9, zpM_sp10, zpM_sp11, zpM_sp12, zpM_sp13, zpM_ap0, zpM_ap1, zpM_ap2, zpM_ap3, zpM_ap4, zpM_ap5, zpM_ap6, zpM_ap7, zpM_ap8, zpM_ap9, zpM_ap10, zpM_ap11, zpM_ap12, zpM_ap13, zpM_ap14, zpM_ap15, zpM_ap16, zpM_ap17, zpM_qg, zpM_lg, zpM_qp, zpM_lp, zmW_W, zmW_N, zmW_P, zmW_B, zmW_A, zmW_G, zmW_k, zmW_f, zmN_W, zmN_N, zmN_P, zmN_B, zmN_A, zmN_G, zmN_k, zmN_f, zmP_W, zmP_N, zmP_P, zmP_B, zmP_A, zmP_G, zmP_k, zmP_f, zmB_W, zmB_N, zmB_P, zmB_B, zmB_A, zmB_G, zmB_k, zmB_f, zmA_W, zmA_N, zmA_P, zmA_B, zmA_A, zmA_G, zmA_k, zmA_f, zmG_W, zmG_N, zmG_P, zmG_B, zmG_A, zmG_G, zmG_k, zmG_f, zmk_W, zmk_N, zmk_P, zmk_B, zmk_A, zmk_G, zmk_k, zmk_f, zmf_W, zmf_N, zmf_P, zmf_B, zmf_A, zmf_G, zmf_k, zmf_f]
  · simp only [hf, if_false]
theorem MO_write_M {r : zz_S} {m : zM} (h : zm_ok m) (hk40 : zmk m < 40) (x v : Int32) : MO_write_f x v (zpM r m) = some ((), zpM r (za_write x v m)) := by
  have e1 : nI 1 = (1 : Int32) := by decide
  have e2 : nI 2 = (2 : Int32) := by decide
  simp only [MO_write_f, zpM_sg2, zm_f1 h, MO_at_M h, zz_bd_s, zz_gd_t, zz_nm_e, zz_oc_s, zz_oc_n]
  unfold za_write
  by_cases hf : zmf m = 0
  · simp only [eq_true hf, if_true]
    rcases h.2.2.2.2.1 _ (zi_p_lt x) with hm | ⟨k, hk, hm⟩
    · rw [if_pos hm, if_pos hm, if_neg (by decide), ← e1, MO_wrong_M 1 h, za_fail_0 hf]
      simp only [zz_bd_s, zz_gd_t, zz_nm_e, zz_oc_s, zz_oc_n, MO_write_48, zpM_sg0, zpM_sg1, zpM_sg2, zpM_sg3, zpM_sg4, zpM_sg5, zpM_sg6, zpM_sg7, zpM_sg8, zpM_sg9, zpM_sg10, zpM_sg11, zpM_sg12, zpM_sg13, zpM_ag0, zpM_ag1, zpM_ag2, zpM_ag3, zpM_ag4, zpM_ag5, zpM_ag6, zpM_ag7, zpM_ag8, zpM_ag9, zpM_ag10, zpM_ag11, zpM_ag12, zpM_ag13, zpM_ag14, zpM_ag15, zpM_ag16, zpM_ag17, zpM_sp0, zpM_sp1, zpM_sp2, zpM_sp3, zpM_sp4, zpM_sp5, zpM_sp6, zpM_sp7, zpM_sp8, zpM_sp9, zpM_sp10, zpM_sp11, zpM_sp12, zpM_sp13, zpM_ap0, zpM_ap1, zpM_ap2, zpM_ap3, zpM_ap4, zpM_ap5, zpM_ap6, zpM_ap7, zpM_ap8, zpM_ap9, zpM_ap10, zpM_ap11, zpM_ap12, zpM_ap13, zpM_ap14, zpM_ap15, zpM_ap16, zpM_ap17, zpM_qg, zpM_lg, zpM_qp, zpM_lp, zm_f1 (zmsf_ok (e := 1) (by decide) h), zmW_W, zmW_N, zmW_P, zmW_B, zmW_A, zmW_G, zmW_k, zmW_f, zmN_W, zmN_N, zmN_P, zmN_B, zmN_A, zmN_G, zmN_k, zmN_f, zmP_W, zmP_N, zmP_P, zmP_B, zmP_A, zmP_G, zmP_k, zmP_f, zmB_W, zmB_N, zmB_P, zmB_B, zmB_A, zmB_G, zmB_k, zmB_f, zmA_W, zmA_N, zmA_P, zmA_B, zmA_A, zmA_G, zmA_k, zmA_f, zmG_W, zmG_N, zmG_P, zmG_B, zmG_A, zmG_G, zmG_k, zmG_f, zmk_W, zmk_N, zmk_P, zmk_B, zmk_A, zmk_G, zmk_k, zmk_f, zmf_W, zmf_N, zmf_P, zmf_B, zmf_A, zmf_G, zmf_k, zmf_f]
      rfl
    · have hk' : k < 2 ^ 31 := by omega
      have hpl : za_pl m x = 256 * k + zi_o x := by unfold za_pl; rw [hm, nI_clamp hk']
      have hpl2 := za_pl_lt h x
      rw [hpl] at hpl2
      have hpl3 := Nat.lt_trans hpl2 (show 3072 < 2 ^ 31 by decide)
      have hkk : zmk m < 2 ^ 31 := by omega
      simp only [hm, zi_m1 hk', if_false, hpl, nI_pos' hpl3, if_true, zi_page', zi_in (N := 16) (by decide) (zi_p_lt x), nI_clamp (Nat.lt_trans (zi_p_lt x) (by decide)), zpM_ag4, zz_bd_s, zz_gd_t, zz_nm_e, zz_oc_s, zz_oc_n]
      by_cases hgd : zmG m (zi_p x) = 0
      · simp only [hgd, if_true, MO_write_48, MO_low_f, zpM_sg0, zpM_sg1, zpM_sg2, zpM_sg3, zpM_sg4, zpM_sg5, zpM_sg6, zpM_sg7, zpM_sg8, zpM_sg9, zpM_sg10, zpM_sg11, zpM_sg12, zpM_sg13, zpM_ag0, zpM_ag1, zpM_ag2, zpM_ag3, zpM_ag4, zpM_ag5, zpM_ag6, zpM_ag7, zpM_ag8, zpM_ag9, zpM_ag10, zpM_ag11, zpM_ag12, zpM_ag13, zpM_ag14, zpM_ag15, zpM_ag16, zpM_ag17, zpM_sp0, zpM_sp1, zpM_sp2, zpM_sp3, zpM_sp4, zpM_sp5, zpM_sp6, zpM_sp7, zpM_sp8, zpM_sp9, zpM_sp10, zpM_sp11, zpM_sp12, zpM_sp13, zpM_ap0, zpM_ap1, zpM_ap2, zpM_ap3, zpM_ap4, zpM_ap5, zpM_ap6, zpM_ap7, zpM_ap8, zpM_ap9, zpM_ap10, zpM_ap11, zpM_ap12, zpM_ap13, zpM_ap14, zpM_ap15, zpM_ap16, zpM_ap17, zpM_qg, zpM_lg, zpM_qp, zpM_lp, zm_f1 h, eq_true hf, zz_bd_s, zz_gd_t, zz_nm_e, zz_oc_s, zz_oc_n, zi_back hk (zi_o_lt x), zi_in (N := 12) (by decide) hk, zi_in (N := 40) (by decide) hk40, nI_clamp hk', nI_clamp hkk, zi_in (N := 3072) (by decide) hpl2, zmW_W, zmW_N, zmW_P, zmW_B, zmW_A, zmW_G, zmW_k, zmW_f, zmN_W, zmN_N, zmN_P, zmN_B, zmN_A, zmN_G, zmN_k, zmN_f, zmP_W, zmP_N, zmP_P, zmP_B, zmP_A, zmP_G, zmP_k, zmP_f, zmB_W, zmB_N, zmB_P, zmB_B, zmB_A, zmB_G, zmB_k, zmB_f, zmA_W, zmA_N, zmA_P, zmA_B, zmA_A, zmA_G, zmA_k, zmA_f, zmG_W, zmG_N, zmG_P, zmG_B, zmG_A, zmG_G, zmG_k, zmG_f, zmk_W, zmk_N, zmk_P, zmk_B, zmk_A, zmk_G, zmk_k, zmk_f, zmf_W, zmf_N, zmf_P, zmf_B, zmf_A, zmf_G, zmf_k, zmf_f, nI_clamp hpl3, nI_1]
        rfl
      · rw [if_neg hgd, if_neg hgd, ← e2, MO_wrong_M 2 h, za_fail_0 hf]
        simp only [zz_bd_s, zz_gd_t, zz_nm_e, zz_oc_s, zz_oc_n, MO_write_48, zpM_sg0, zpM_sg1, zpM_sg2, zpM_sg3, zpM_sg4, zpM_sg5, zpM_sg6, zpM_sg7, zpM_sg8, zpM_sg9, zpM_sg10, zpM_sg11, zpM_sg12, zpM_sg13, zpM_ag0, zpM_ag1, zpM_ag2, zpM_ag3, zpM_ag4, zpM_ag5, zpM_ag6, zpM_ag7, zpM_ag8, zpM_ag9, zpM_ag10, zpM_ag11, zpM_ag12, zpM_ag13, zpM_ag14, zpM_ag15, zpM_ag16, zpM_ag17, zpM_sp0, zpM_sp1, zpM_sp2, zpM_sp3, zpM_sp4, zpM_sp5, zpM_sp6, zpM_sp7, zpM_sp8, zpM_sp9, zpM_sp10, zpM_sp11, zpM_sp12, zpM_sp13, zpM_ap0, zpM_ap1, zpM_ap2, zpM_ap3, zpM_ap4, zpM_ap5, zpM_ap6, zpM_ap7, zpM_ap8, zpM_ap9, zpM_ap10, zpM_ap11, zpM_ap12, zpM_ap13, zpM_ap14, zpM_ap15, zpM_ap16, zpM_ap17, zpM_qg, zpM_lg, zpM_qp, zpM_lp, zm_f1 (zmsf_ok (e := 2) (by decide) h), zmW_W, zmW_N, zmW_P, zmW_B, zmW_A, zmW_G, zmW_k, zmW_f, zmN_W, zmN_N, zmN_P, zmN_B, zmN_A, zmN_G, zmN_k, zmN_f, zmP_W, zmP_N, zmP_P, zmP_B, zmP_A, zmP_G, zmP_k, zmP_f, zmB_W, zmB_N, zmB_P, zmB_B, zmB_A, zmB_G, zmB_k, zmB_f, zmA_W, zmA_N, zmA_P, zmA_B, zmA_A, zmA_G, zmA_k, zmA_f, zmG_W, zmG_N, zmG_P, zmG_B, zmG_A, zmG_G, zmG_k, zmG_f, zmk_W, zmk_N, zmk_P, zmk_B, zmk_A, zmk_G, zmk_k, zmk_f, zmf_W, zmf_N, zmf_P, zmf_B, zmf_A, zmf_G, zmf_k, zmf_f]
        rfl
  · simp only [hf, if_false]
theorem ME_fail_C1 {c : zz_S} {m : zM} (h : zm_ok m) : ME_fail_f (1 : Int32) (zpC c m) = some ((), zpC c (za_fail 1 m)) := ME_fail_C 1 h
theorem MO_wrong_M1 {r : zz_S} {m : zM} (h : zm_ok m) : MO_wrong_f (1 : Int32) (zpM r m) = some ((), zpM r (za_fail 1 m)) := MO_wrong_M 1 h
theorem ME_fail_C2 {c : zz_S} {m : zM} (h : zm_ok m) : ME_fail_f (2 : Int32) (zpC c m) = some ((), zpC c (za_fail 2 m)) := ME_fail_C 2 h
theorem MO_wrong_M2 {r : zz_S} {m : zM} (h : zm_ok m) : MO_wrong_f (2 : Int32) (zpM r m) = some ((), zpM r (za_fail 2 m)) := MO_wrong_M 2 h
theorem ME_fail_C3 {c : zz_S} {m : zM} (h : zm_ok m) : ME_fail_f (3 : Int32) (zpC c m) = some ((), zpC c (za_fail 3 m)) := ME_fail_C 3 h
theorem MO_wrong_M3 {r : zz_S} {m : zM} (h : zm_ok m) : MO_wrong_f (3 : Int32) (zpM r m) = some ((), zpM r (za_fail 3 m)) := MO_wrong_M 3 h
theorem ME_fail_C4 {c : zz_S} {m : zM} (h : zm_ok m) : ME_fail_f (4 : Int32) (zpC c m) = some ((), zpC c (za_fail 4 m)) := ME_fail_C 4 h
theorem MO_wrong_M4 {r : zz_S} {m : zM} (h : zm_ok m) : MO_wrong_f (4 : Int32) (zpM r m) = some ((), zpM r (za_fail 4 m)) := MO_wrong_M 4 h
theorem ME_fail_C5 {c : zz_S} {m : zM} (h : zm_ok m) : ME_fail_f (5 : Int32) (zpC c m) = some ((), zpC c (za_fail 5 m)) := ME_fail_C 5 h
theorem MO_wrong_M5 {r : zz_S} {m : zM} (h : zm_ok m) : MO_wrong_f (5 : Int32) (zpM r m) = some ((), zpM r (za_fail 5 m)) := MO_wrong_M 5 h
theorem ME_fail_C6 {c : zz_S} {m : zM} (h : zm_ok m) : ME_fail_f (6 : Int32) (zpC c m) = some ((), zpC c (za_fail 6 m)) := ME_fail_C 6 h
theorem MO_wrong_M6 {r : zz_S} {m : zM} (h : zm_ok m) : MO_wrong_f (6 : Int32) (zpM r m) = some ((), zpM r (za_fail 6 m)) := MO_wrong_M 6 h
theorem ME_fail_C7 {c : zz_S} {m : zM} (h : zm_ok m) : ME_fail_f (7 : Int32) (zpC c m) = some ((), zpC c (za_fail 7 m)) := ME_fail_C 7 h
theorem MO_wrong_M7 {r : zz_S} {m : zM} (h : zm_ok m) : MO_wrong_f (7 : Int32) (zpM r m) = some ((), zpM r (za_fail 7 m)) := MO_wrong_M 7 h
theorem ME_fail_C8 {c : zz_S} {m : zM} (h : zm_ok m) : ME_fail_f (8 : Int32) (zpC c m) = some ((), zpC c (za_fail 8 m)) := ME_fail_C 8 h
theorem MO_wrong_M8 {r : zz_S} {m : zM} (h : zm_ok m) : MO_wrong_f (8 : Int32) (zpM r m) = some ((), zpM r (za_fail 8 m)) := MO_wrong_M 8 h
theorem ME_fail_C9 {c : zz_S} {m : zM} (h : zm_ok m) : ME_fail_f (9 : Int32) (zpC c m) = some ((), zpC c (za_fail 9 m)) := ME_fail_C 9 h
theorem MO_wrong_M9 {r : zz_S} {m : zM} (h : zm_ok m) : MO_wrong_f (9 : Int32) (zpM r m) = some ((), zpM r (za_fail 9 m)) := MO_wrong_M 9 h
