/-! the calls: pages and words -/
theorem z10 : ¬ (1 : Int32) = 0 := by decide
def zRv (f : Nat → Int32) (B : Nat) (a : Int32 ⊕ Nat) (C : zz_S) (b : Int32) (R : zz_S) : Prop := zI B C R ∧ ((a = Sum.inl b ∧ zz_sg R 0 = 0) ∨ ∃ i, a = Sum.inr i ∧ zz_sg R 0 = f i ∧ f i ≠ 0)
def zRu (f : Nat → Int32) (B : Nat) (a : Unit ⊕ Nat) (C : zz_S) (_ : Unit) (R : zz_S) : Prop := zI B C R ∧ ((a = Sum.inl () ∧ zz_sg R 0 = 0) ∨ ∃ i, a = Sum.inr i ∧ zz_sg R 0 = f i ∧ f i ≠ 0)
def zRi (B : Nat) (a : Int32) (C : zz_S) (b : Int32) (R : zz_S) : Prop := zI B C R ∧ a = b
def ze0 (i : Nat) : Int32 := if i = 0 then 1 else 0
def ze1 (i : Nat) : Int32 := if i = 1 then 1 else 0
def ze2 (i : Nat) : Int32 := if i = 2 then 1 else 0
def ze01 (i : Nat) : Int32 := if i = 0 then 1 else if i = 1 then 2 else 0
theorem znum (N : Nat) (hN : N < 2 ^ 31) {M : Int32} (hM : M = nI N) (x : Int32) : (∃ j, j < N ∧ x = nI j ∧ ¬ x < 0 ∧ ¬ M ≤ x ∧ ∀ st, MO_isNumber_f x M st = some (1, st)) ∨ ((x < 0 ∨ M ≤ x) ∧ ∀ st, MO_isNumber_f x M st = some (0, st)) := by
  unfold MO_isNumber_f
  by_cases h0 : x < 0
  · exact Or.inr ⟨Or.inl h0, fun st => by rw [if_pos h0]⟩
  · obtain ⟨j, hj, e⟩ := nI_of h0
    by_cases h1 : M ≤ x
    · exact Or.inr ⟨Or.inr h1, fun st => by rw [if_neg h0, if_pos h1]⟩
    · refine Or.inl ⟨j, ?_, e, h0, h1, fun st => by rw [if_neg h0, if_neg h1]⟩
      rw [hM, e, nI_leI hN hj] at h1
      omega
theorem ME_isPage_e (x : Int32) (st : zz_S) : ME_isPage_f x st = MO_isNumber_f x 16 st := rfl
theorem ME_isReal_e (x : Int32) (st : zz_S) : ME_isRealPage_f x st = MO_isNumber_f x 12 st := rfl
theorem ME_isAddr_e (x : Int32) (st : zz_S) : ME_isAddress_f x st = MO_isNumber_f x 4096 st := rfl
theorem zI_0 {B : Nat} {c r : zz_S} {m : zM} {d e : Nat} {w v : Nat → Int32} (hm : zm_ok m) (hT : zTx B 6 c r) (y : Int32) : zI B (zC c m d w) (zz_sp (zR r m e v) 0 y) := ⟨c, zz_sp r 0 y, m, d, w, e, v, rfl, zR_sp0 _ _ _ _ _, hm, hT⟩
theorem zsg00 (R : zz_S) (y : Int32) : zz_sg (zz_sp R 0 y) 0 = y := rfl
theorem zsg1 (R : zz_S) {y : Int32} (h : ¬ y = 0) : ¬ zz_sg (zz_sp R 0 y) 0 = 0 := h
theorem zok_A {m : zM} (h : zm_ok m) {p : Nat} {v : Int32} (hv : v = -1 ∨ ∃ k, k < 12 ∧ v = nI k) : zm_ok (zmsA m (upd (zmA m) p v)) := by
  refine ⟨h.1, h.2.1, h.2.2.1, h.2.2.2.1, fun q hq => ?_, h.2.2.2.2.2.1, h.2.2.2.2.2.2⟩
  show upd (zmA m) p v q = -1 ∨ ∃ k, k < 12 ∧ upd (zmA m) p v q = nI k
  unfold upd
  split
  · exact hv
  · exact h.2.2.2.2.1 q hq
theorem zok_G {m : zM} (h : zm_ok m) {p : Nat} {v : Int32} (hv : v = 0 ∨ v = 1) : zm_ok (zmsG m (upd (zmG m) p v)) := ⟨h.1, h.2.1, h.2.2.1, h.2.2.2.1, h.2.2.2.2.1, zu_all (P := fun x => x = 0 ∨ x = 1) h.2.2.2.2.2.1 hv, h.2.2.2.2.2.2⟩
theorem zok_N {m : zM} (h : zm_ok m) {p : Nat} {v : Int32} (hv : ∃ w, w < 4 ∧ v = nI w) : zm_ok (zmsN m (upd (zmN m) p v)) := ⟨h.1, zu_all (P := fun x => ∃ w, w < 4 ∧ x = nI w) h.2.1 hv, h.2.2.1, h.2.2.2.1, h.2.2.2.2.1, h.2.2.2.2.2.1, h.2.2.2.2.2.2⟩
theorem zok_W {m : zM} (h : zm_ok m) {p : Nat} {v : Int32} (hv : ∃ w, w < 65536 ∧ v = nI w) : zm_ok (zmsW m (upd (zmW m) p v)) := ⟨zu_all (P := fun x => ∃ w, w < 65536 ∧ x = nI w) h.1 hv, h.2.1, h.2.2.1, h.2.2.2.1, h.2.2.2.2.1, h.2.2.2.2.2.1, h.2.2.2.2.2.2⟩
theorem zreal (x : Int32) : x = -1 ∨ (∃ j, j < 12 ∧ x = nI j ∧ ¬ x = -1 ∧ ¬ x < -1 ∧ x ≤ 11 ∧ ∀ st, MO_isNumber_f x 12 st = some (1, st)) ∨ (¬ x = -1 ∧ (x < -1 ∨ (¬ x < -1 ∧ ¬ x ≤ 11)) ∧ ∀ st, MO_isNumber_f x 12 st = some (0, st)) := by
  have hm1 : (-1 : Int32).toInt = -1 := by decide
  have h12 : (12 : Int32).toInt = 12 := by decide
  have h11 : (11 : Int32).toInt = 11 := by decide
  have h0 : (0 : Int32).toInt = 0 := by decide
  by_cases e : x = -1
  · exact Or.inl e
  · have e' : ¬ x.toInt = -1 := fun z => e (Int32.toInt_inj.mp (z.trans hm1.symm))
    rcases znum 12 (by decide) (M := 12) rfl x with ⟨j, hj, ej, q1, q2, q3⟩ | ⟨q1, q2⟩
    · refine Or.inr (Or.inl ⟨j, hj, ej, e, ?_, ?_, q3⟩)
      · rw [Int32.lt_iff_toInt_lt] at q1 ⊢
        omega
      · rw [Int32.le_iff_toInt_le] at q2 ⊢
        omega
    · refine Or.inr (Or.inr ⟨e, ?_, q2⟩)
      rw [Int32.lt_iff_toInt_lt, Int32.le_iff_toInt_le] at q1 ⊢
      omega
theorem zc_map {B : Nat} {C R : zz_S} (h : zI B C R) (x y : Int32) : zr (FP_map_f x y C) (MO_map_f x y R) (zRu ze0 B) := by
  obtain ⟨c, r, m, d, w, e, v, rfl, rfl, hm, hT⟩ := h
  unfold FP_map_f MO_map_f FP_map_19 FP_map_27 MO_map_21 MO_map_26 ME_assign_f
  simp only [ME_isPage_e, ME_isReal_e]
  rcases znum 16 (by decide) (M := 16) rfl x with ⟨p, hp, rfl, -, -, q⟩ | ⟨-, q⟩
  · rw [q, q, zz_bd_s, zz_bd_s, if_neg z10, if_neg z10]
    have hin : zz_in (nI p) 16 = true := zi_in (by decide) hp
    have ok : ∀ {z : Int32}, (z = -1 ∨ ∃ k, k < 12 ∧ z = nI k) → zr (zz_bd (zz_gd (zz_in (nI p) 16) (zz_nm (zz_ap (zC c m d w) 1 (nI p).toNatClampNeg z) fun s_1 => (some ((), s_1)))) fun _ s_1 => (some ((Sum.inl () : Unit ⊕ Nat), s_1))) (zz_nm (zz_sp (zR r m e v) 0 0) fun s_1 => (if (zz_sg s_1 0) = 0 then (zz_gd (zz_in (nI p) 16) (zz_nm (zz_ap s_1 1 (nI p).toNatClampNeg z) fun s_2 => (some ((), s_2)))) else (some ((), s_1)))) (zRu ze0 B) := by
      intro z hz
      rw [hin, zz_gd_t, nI_clamp (by omega), zz_nm_e, zz_bd_s, zz_nm_e, if_pos (zsg00 _ _), zz_gd_t, zz_nm_e, zC_ap1, zR_sp0, zR_ap1]
      exact zr_ret ⟨⟨c, zz_sp r 0 0, _, d, w, e, v, rfl, rfl, zok_A hm hz, hT⟩, Or.inl ⟨rfl, rfl⟩⟩
    have bad : zr (some ((Sum.inr 0 : Unit ⊕ Nat), zC c m d w)) (zz_nm (zz_sp (zR r m e v) 0 1) fun s_1 => (if (zz_sg s_1 0) = 0 then (zz_gd (zz_in (nI p) 16) (zz_nm (zz_ap s_1 1 (nI p).toNatClampNeg y) fun s_2 => (some ((), s_2)))) else (some ((), s_1)))) (zRu ze0 B) := by
      rw [zz_nm_e, if_neg (zsg1 _ (by decide))]
      exact zr_ret ⟨zI_0 hm hT 1, Or.inr ⟨0, rfl, rfl, by decide⟩⟩
    rcases zreal y with rfl | ⟨j, hj, ej, n1, n2, n3, q3⟩ | ⟨n1, n2, q3⟩
    · rw [if_pos rfl, if_neg (by decide), if_pos (by decide)]
      exact ok (Or.inl rfl)
    · rw [if_neg n1, q3, zz_bd_s, if_neg z10, if_neg n2, if_pos n3]
      exact ok (Or.inr ⟨j, hj, ej⟩)
    · rw [if_neg n1, q3, zz_bd_s, if_pos rfl]
      rcases n2 with n2 | ⟨n2, n3⟩
      · rw [if_pos n2]; exact bad
      · rw [if_neg n2, if_neg n3]; exact bad
  · rw [q, q, zz_bd_s, zz_bd_s, if_pos rfl, if_pos rfl, zz_nm_e, if_neg (zsg1 _ (by decide))]
    exact zr_ret ⟨zI_0 hm hT 1, Or.inr ⟨0, rfl, rfl, by decide⟩⟩
theorem zc_protect {B : Nat} {C R : zz_S} (h : zI B C R) (x : Int32) {y : Int32} (hy : y = 0 ∨ y = 1) : zr (FP_protect_f x y C) (MO_protect_f x y R) (zRu ze0 B) := by
  obtain ⟨c, r, m, d, w, e, v, rfl, rfl, hm, hT⟩ := h
  have hb : zz_bn y = 0 ∨ zz_bn y = 1 := by
    rcases hy with rfl | rfl
    · exact Or.inl (by decide)
    · exact Or.inr (by decide)
  unfold FP_protect_f MO_protect_f MO_protect_15 ME_setGuarded_f
  simp only [ME_isPage_e]
  rcases znum 16 (by decide) (M := 16) rfl x with ⟨p, hp, rfl, -, -, q⟩ | ⟨-, q⟩
  · rw [q, q, zz_bd_s, zz_bd_s, if_neg z10, if_neg z10, zi_in (by decide) hp, zz_gd_t, nI_clamp (by omega), zz_nm_e, zz_bd_s, zz_nm_e, if_pos (zsg00 _ _), zz_gd_t, zz_nm_e, zC_ap2, zR_sp0, zR_ap4]
    exact zr_ret ⟨⟨c, zz_sp r 0 0, _, d, w, e, v, rfl, rfl, zok_G hm hb, hT⟩, Or.inl ⟨rfl, rfl⟩⟩
  · rw [q, q, zz_bd_s, zz_bd_s, if_pos rfl, if_pos rfl, zz_nm_e, if_neg (zsg1 _ (by decide))]
    exact zr_ret ⟨zI_0 hm hT 1, Or.inr ⟨0, rfl, rfl, by decide⟩⟩
theorem zc_noted {B : Nat} {C R : zz_S} (h : zI B C R) (x : Int32) : zr (FP_noted_f x C) (MO_noted_f x R) (zRv ze0 B) := by
  obtain ⟨c, r, m, d, w, e, v, rfl, rfl, hm, hT⟩ := h
  unfold FP_noted_f MO_noted_f MO_noted_15 ME_takeNotes_f
  simp only [ME_isReal_e]
  rcases znum 12 (by decide) (M := 12) rfl x with ⟨p, hp, rfl, -, -, q⟩ | ⟨-, q⟩
  · rw [q, q, zz_bd_s, zz_bd_s, if_neg z10, if_neg z10, zi_in (by decide) hp, zz_gd_t, zz_nm_e, zz_gd_t, nI_clamp (by omega), zz_nm_e, zz_bd_s, zz_nm_e, if_pos (show zz_sg (zz_sp (zR r m e v) 0 0) 0 ≤ 0 from (by decide : (0 : Int32) ≤ 0)), zz_gd_t, zz_nm_e, zz_gd_t, zz_nm_e, zC_ag3, zC_ap3, zR_sp0, zR_ag2, zR_ap2]
    exact zr_ret ⟨⟨c, zz_sp r 0 0, _, d, w, e, v, rfl, rfl, zok_N hm ⟨0, by decide, nI_0.symm⟩, hT⟩, Or.inl ⟨rfl, rfl⟩⟩
  · rw [q, q, zz_bd_s, zz_bd_s, if_pos rfl, if_pos rfl, zz_nm_e, if_neg (show ¬ zz_sg (zz_sp (zR r m e v) 0 1) 0 ≤ 0 from (by decide : ¬ (1 : Int32) ≤ 0))]
    exact zr_ret ⟨zI_0 hm hT 1, Or.inr ⟨0, rfl, rfl, by decide⟩⟩
/-- words looked at from outside -/
def zlook (m : zM) (x : Int32) : Int32 := if zmA m (zi_p x) = -1 then 0 else zmW m (za_pl m x)
theorem zpg {m : zM} (hm : zm_ok m) (x : Int32) : zmA m (zi_p x) = -1 ∨ ∃ k, k < 12 ∧ zmA m (zi_p x) = nI k ∧ ¬ zmA m (zi_p x) = -1 ∧ za_pl m x = 256 * k + zi_o x ∧ 256 * k + zi_o x < 3072 := by
  rcases hm.2.2.2.2.1 _ (zi_p_lt x) with h | ⟨k, hk, h⟩
  · exact Or.inl h
  · have hk' : k < 2 ^ 31 := by omega
    have hpl : za_pl m x = 256 * k + zi_o x := by unfold za_pl; rw [h, nI_clamp hk']
    have := za_pl_lt hm x
    exact Or.inr ⟨k, hk, h, by rw [h]; exact zi_m1 hk', hpl, by omega⟩
theorem ME_look_e {c : zz_S} {m : zM} {d : Nat} {w : Nat → Int32} (hm : zm_ok m) (x : Int32) : ME_look_f x (zC c m d w) = some (zlook m x, zC c m d w) := by
  have hp := zi_p_lt x
  unfold ME_look_f zlook
  rw [zz_nm_e, zi_page, zi_in (by decide) hp, zz_gd_t, nI_clamp (by omega), zz_nm_e, zC_ag1]
  rcases zpg hm x with h | ⟨k, hk, h, hn, hpl, hlt⟩
  · rw [if_pos h, if_pos h]
  · rw [if_neg hn, if_neg hn, h, zz_nm_e, zi_off, zi_place, zi_in (by decide) hlt, zz_gd_t, nI_clamp (by omega), zC_ag0, hpl]
theorem ME_put_e {c : zz_S} {m : zM} {d : Nat} {w : Nat → Int32} (hm : zm_ok m) (x y : Int32) (hn : ¬ zmA m (zi_p x) = -1) : ME_put_f x y (zC c m d w) = some ((), zC c (zmsW m (upd (zmW m) (za_pl m x) (y &&& 65535))) d w) := by
  have hp := zi_p_lt x
  unfold ME_put_f
  rw [zz_nm_e, zi_page, zi_in (by decide) hp, zz_gd_t, nI_clamp (by omega), zz_nm_e, zC_ag1]
  rcases zpg hm x with h | ⟨k, hk, h, hn, hpl, hlt⟩
  · exact absurd h hn
  · rw [if_neg hn, h, zz_nm_e, zi_off, zi_place, zi_in (by decide) hlt, zz_gd_t, nI_clamp (by omega), zz_nm_e, zC_ap0, hpl]
theorem ME_there_e {c : zz_S} {m : zM} {d : Nat} {w : Nat → Int32} (x : Int32) : ME_isThere_f x (zC c m d w) = if zmA m (zi_p x) = -1 then some (0, zC c m d w) else some (1, zC c m d w) := by
  have hp := zi_p_lt x
  unfold ME_isThere_f
  rw [zz_nm_e, zi_page, zi_in (by decide) hp, zz_gd_t, nI_clamp (by omega), zC_ag1]
theorem MO_at_r {c : zz_S} {m : zM} {d : Nat} {w : Nat → Int32} (hm : zm_ok m) (x : Int32) : MO_at_f x (zR c m d w) = some (if zmA m (zi_p x) = -1 then -1 else nI (za_pl m x), zR c m d w) := MO_at_M hm x
theorem zc_poke {B : Nat} {C R : zz_S} (h : zI B C R) (x y : Int32) : zr (FP_poke_f x y C) (MO_poke_f x y R) (zRu ze01 B) := by
  obtain ⟨c, r, m, d, w, e, v, rfl, rfl, hm, hT⟩ := h
  unfold FP_poke_f MO_poke_f MO_poke_28 MO_low_f
  simp only [ME_isAddr_e]
  rcases znum 4096 (by decide) (M := 4096) rfl x with ⟨p, hp, -, -, -, q⟩ | ⟨-, q⟩
  · rw [q, q, zz_bd_s, zz_bd_s, if_neg z10, if_neg z10, ME_there_e, MO_at_r hm, zz_bd_s]
    rcases zpg hm x with h | ⟨k, hk, h, hn, hpl, hlt⟩
    · rw [if_pos h, if_pos h, zz_bd_s, if_pos rfl, if_neg (by decide), zz_nm_e, if_neg (zsg1 _ (by decide))]
      exact zr_ret ⟨zI_0 hm hT 2, Or.inr ⟨1, rfl, rfl, by decide⟩⟩
    · have hpl31 : za_pl m x < 2 ^ 31 := by omega
      rw [if_neg hn, if_neg hn, zz_bd_s, if_neg z10, ME_put_e hm _ _ hn, zz_bd_s, if_pos (nI_pos' hpl31), zz_nm_e, if_pos (zsg00 _ _), zR_sp0, MO_at_r hm, if_neg hn, zz_bd_s, zz_bd_s, zi_in (by decide) (by omega), zz_gd_t, nI_clamp hpl31, zR_ap3, zz_nm_e]
      exact zr_ret ⟨⟨c, zz_sp r 0 0, _, d, w, e, v, rfl, rfl, zok_W hm (zi_w y), hT⟩, Or.inl ⟨rfl, rfl⟩⟩
  · rw [q, q, zz_bd_s, zz_bd_s, if_pos rfl, if_pos rfl, zz_nm_e, if_neg (zsg1 _ (by decide))]
    exact zr_ret ⟨zI_0 hm hT 1, Or.inr ⟨0, rfl, rfl, by decide⟩⟩
theorem zc_peek {B : Nat} {C R : zz_S} (h : zI B C R) (x : Int32) : zr (FP_peek_f x C) (MO_peek_f x R) (zRv ze01 B) := by
  obtain ⟨c, r, m, d, w, e, v, rfl, rfl, hm, hT⟩ := h
  unfold FP_peek_f MO_peek_f MO_peek_28
  simp only [ME_isAddr_e]
  rcases znum 4096 (by decide) (M := 4096) rfl x with ⟨p, hp, -, -, -, q⟩ | ⟨-, q⟩
  · rw [q, q, zz_bd_s, zz_bd_s, if_neg z10, if_neg z10, ME_there_e, MO_at_r hm, zz_bd_s]
    rcases zpg hm x with h | ⟨k, hk, h, hn, hpl, hlt⟩
    · rw [if_pos h, if_pos h, zz_bd_s, if_pos rfl, if_neg (by decide), zz_nm_e, if_neg (zsg1 _ (by decide))]
      exact zr_ret ⟨zI_0 hm hT 2, Or.inr ⟨1, rfl, rfl, by decide⟩⟩
    · have hpl31 : za_pl m x < 2 ^ 31 := by omega
      rw [if_neg hn, if_neg hn, zz_bd_s, if_neg z10, ME_look_e hm, zz_bd_s, if_pos (nI_pos' hpl31), zz_nm_e, if_pos (zsg00 _ _), zR_sp0, MO_at_r hm, if_neg hn, zz_bd_s, zi_in (by decide) (by omega), zz_gd_t, nI_clamp hpl31, zR_ag3]
      unfold zlook
      rw [if_neg hn]
      exact zr_ret ⟨⟨c, zz_sp r 0 0, m, d, w, e, v, rfl, rfl, hm, hT⟩, Or.inl ⟨rfl, rfl⟩⟩
  · rw [q, q, zz_bd_s, zz_bd_s, if_pos rfl, if_pos rfl, zz_nm_e, if_neg (zsg1 _ (by decide))]
    exact zr_ret ⟨zI_0 hm hT 1, Or.inr ⟨0, rfl, rfl, by decide⟩⟩
theorem zc_page {B : Nat} {C R : zz_S} (h : zI B C R) (x y : Int32) : zr (FP_page_f x y C) (MO_page_f x y R) (zRi B) := by
  obtain ⟨c, r, m, d, w, e, v, rfl, rfl, hm, hT⟩ := h
  unfold FP_page_f MO_page_f ME_realOf_f ME_isGuarded_f
  simp only [ME_isPage_e]
  rw [zz_nm_e, zR_sp0]
  have hI : zI B (zC c m d w) (zR (zz_sp r 0 0) m e v) := ⟨c, _, m, d, w, e, v, rfl, rfl, hm, hT⟩
  rcases znum 16 (by decide) (M := 16) rfl x with ⟨p, hp, rfl, -, -, q⟩ | ⟨-, q⟩
  · rw [q, q, zz_bd_s, zz_bd_s, if_neg z10, if_neg z10]
    by_cases y0 : y = 0
    · rw [if_pos y0, if_pos y0, zi_in (by decide) hp, zz_gd_t, zz_gd_t, nI_clamp (by omega), zz_bd_s, zC_ag1, zR_ag1]
      exact zr_ret ⟨hI, rfl⟩
    · rw [if_neg y0, if_neg y0]
      by_cases y1 : y = 1
      · rw [if_pos y1, if_pos y1, zi_in (by decide) hp, zz_gd_t, zz_gd_t, nI_clamp (by omega), zC_ag2, zR_ag4]
        rcases hm.2.2.2.2.2.1 p with g | g
        · rw [g, zz_bo_0, zz_gd_t, zz_bd_s, if_pos rfl, if_pos rfl]
          exact zr_ret ⟨hI, rfl⟩
        · rw [g, zz_bo_1, zz_gd_t, zz_bd_s, if_neg z10, if_neg (by decide)]
          exact zr_ret ⟨hI, rfl⟩
      · rw [if_neg y1, if_neg y1]
        exact zr_ret ⟨hI, rfl⟩
  · rw [q, q, zz_bd_s, zz_bd_s, if_pos rfl, if_pos rfl]
    exact zr_ret ⟨hI, rfl⟩
theorem zfr_loop {c r : zz_S} {m : zM} {d e : Nat} {w v : Nat → Int32} (hm : zm_ok m) : ∀ (k n i : Nat) (f : Int32), i + k = 600 → ∃ b, FP_free_26 (n + k + 1) (nI i) f (zC c m d w) = some (b, zC c m d w) ∧ MO_free_43 (n + k + 1) (nI i) f (zR r m e v) = some (b, zR r m e v) := by
  intro k
  induction k with
  | zero =>
    intro n i f hi
    have : i = 600 := by omega
    subst this
    refine ⟨nI 600, ?_, ?_⟩
    · show FP_free_26b (FP_free_26 (n + 0)) (nI 600) f (zC c m d w) = _
      unfold FP_free_26b
      rw [if_pos (show (600 : Int32) ≤ nI 600 by decide)]
      split <;> rfl
    · show MO_free_43b (MO_free_43 (n + 0)) (nI 600) f (zR r m e v) = _
      unfold MO_free_43b
      rw [if_pos (show (600 : Int32) ≤ nI 600 by decide)]
      split <;> rfl
  | succ k ih =>
    intro n i f hi
    have hlt : ¬ (600 : Int32) ≤ nI i := nI_ge (b := 600) (by omega) (by decide)
    have e1 : FP_free_26 (n + (k + 1) + 1) (nI i) f (zC c m d w) = if f = 0 then some (nI i, zC c m d w) else FP_free_26 (n + k + 1) (nI (i + 1)) (zlook m f) (zC c m d w) := by
      show FP_free_26b (FP_free_26 (n + k + 1)) (nI i) f (zC c m d w) = _
      unfold FP_free_26b
      rw [if_neg hlt, ME_look_e hm, zz_bd_s, nI_1]
    have e2 : MO_free_43 (n + (k + 1) + 1) (nI i) f (zR r m e v) = if f = 0 then some (nI i, zR r m e v) else MO_free_43 (n + k + 1) (nI (i + 1)) (zlook m f) (zR r m e v) := by
      show MO_free_43b (MO_free_43 (n + k + 1)) (nI i) f (zR r m e v) = _
      unfold MO_free_43b MO_free_79 zlook
      rw [if_neg hlt, MO_at_r hm, zz_bd_s, nI_1]
      rcases zpg hm f with h | ⟨k', hk, h, hn, hpl, hlt'⟩
      · rw [if_pos h, if_pos h, if_neg (show ¬ (0 : Int32) ≤ -1 by decide)]
      · have hpl31 : za_pl m f < 2 ^ 31 := by omega
        rw [if_neg hn, if_neg hn, if_pos (nI_pos' hpl31), zi_in (by decide) (by omega), zz_gd_t, nI_clamp hpl31, zR_ag3]
    rw [e1, e2]
    by_cases hf : f = 0
    · rw [if_pos hf, if_pos hf]
      exact ⟨_, rfl, rfl⟩
    · rw [if_neg hf, if_neg hf]
      exact ih n (i + 1) _ (by omega)
theorem zc_free {B : Nat} {C R : zz_S} (h : zI B C R) (x : Int32) : zr (FP_free_f x C) (MO_free_f x R) (zRi B) := by
  obtain ⟨c, r, m, d, w, e, v, rfl, rfl, hm, hT⟩ := h
  unfold FP_free_f MO_free_f MO_free_41
  rw [zz_nm_e, zR_sp0]
  have hI : zI B (zC c m d w) (zR (zz_sp r 0 0) m e v) := ⟨c, _, m, d, w, e, v, rfl, rfl, hm, hT⟩
  rcases znum 8 (by decide) (M := 8) rfl x with ⟨p, hp, -, q1, q2, q⟩ | ⟨q1, q⟩
  · rw [q, zz_bd_s, if_neg q1, if_pos (Int32.not_le.mp q2), if_neg z10, ME_look_e hm, zz_bd_s, MO_at_r hm, zz_bd_s]
    obtain ⟨b, b1, b2⟩ := zfr_loop (c := c) (r := zz_sp r 0 0) (d := d) (e := e) (w := w) (v := v) hm 600 0 0 (zlook m (16 + x)) (by decide)
    have b1' : FP_free_26 601 (0 : Int32) (zlook m (16 + x)) (zC c m d w) = some (b, zC c m d w) := b1
    have b2' : MO_free_43 601 (0 : Int32) (zlook m (16 + x)) (zR (zz_sp r 0 0) m e v) = some (b, zR (zz_sp r 0 0) m e v) := b2
    rw [b1']
    unfold zlook at b2'
    rcases zpg hm (16 + x) with h | ⟨k', hk, h, hn, hpl, hlt'⟩
    · rw [if_pos h] at b2'
      rw [if_pos h, if_neg (show ¬ (0 : Int32) ≤ -1 by decide), b2']
      exact zr_ret ⟨hI, rfl⟩
    · have hpl31 : za_pl m (16 + x) < 2 ^ 31 := by omega
      rw [if_neg hn] at b2'
      rw [if_neg hn, if_pos (nI_pos' hpl31), zi_in (by decide) (by omega), zz_gd_t, nI_clamp hpl31, zR_ag3, b2']
      exact zr_ret ⟨hI, rfl⟩
  · rw [q, zz_bd_s, if_pos rfl]
    rcases q1 with q1 | q1
    · rw [if_pos q1]
      exact zr_ret ⟨hI, rfl⟩
    · by_cases q0 : x < 0
      · rw [if_pos q0]
        exact zr_ret ⟨hI, rfl⟩
      · rw [if_neg q0, if_neg (Int32.not_lt.mpr q1)]
        exact zr_ret ⟨hI, rfl⟩
