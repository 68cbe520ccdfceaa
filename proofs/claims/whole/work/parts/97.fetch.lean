/-! fetching an instruction -/
theorem za_byte_low (x : Int32) (n : Nat) (m : zM) : za_byte x (nI (n % 65536)) m = za_byte x (nI n) m := by
  unfold za_byte
  rw [zi_16', zi_16', zi_1, zi_1, Nat.mod_mod, show n % 65536 % 2 = n % 2 from by omega]
/-- what both read first: the number of the global frame, the global frame, the bytes, where, the code -/
def zf_1 (x : Int32) (m : zM) : Int32 × zM := za_read (x + 1) m
def zf_2 (x : Int32) (m : zM) : Int32 × zM := za_read (32 + ((zf_1 x m).1 &&& 15)) (zf_1 x m).2
def zf_3 (x : Int32) (m : zM) : Int32 × zM := za_read (zf_2 x m).1 (zf_2 x m).2
def zf_4 (x : Int32) (m : zM) : Int32 × zM := za_read (x + 2) (zf_3 x m).2
def zf_5 (x : Int32) (m : zM) : Int32 × zM := za_byte (zf_3 x m).1 (zf_4 x m).1 (zf_4 x m).2
theorem zf_ok1 {x : Int32} {m : zM} (h : zm_ok m) : zm_ok (zf_1 x m).2 := za_read_ok _ h
theorem zf_ok2 {x : Int32} {m : zM} (h : zm_ok m) : zm_ok (zf_2 x m).2 := za_read_ok _ (zf_ok1 h)
theorem zf_ok3 {x : Int32} {m : zM} (h : zm_ok m) : zm_ok (zf_3 x m).2 := za_read_ok _ (zf_ok2 h)
theorem zf_ok4 {x : Int32} {m : zM} (h : zm_ok m) : zm_ok (zf_4 x m).2 := za_read_ok _ (zf_ok3 h)
theorem zf_ok5 {x : Int32} {m : zM} (h : zm_ok m) : zm_ok (zf_5 x m).2 := za_byte_ok _ _ (zf_ok4 h)
theorem zf_k5 (x : Int32) (m : zM) : zmk (zf_5 x m).2 = zmk m := by
  unfold zf_5
  rw [za_byte_k]
  unfold zf_4
  rw [za_read_k]
  unfold zf_3
  rw [za_read_k]
  unfold zf_2
  rw [za_read_k]
  exact za_read_k _ _
/-- the component's rest when the code is read -/
def zf_c (c : zz_S) (x : Int32) (m : zM) : zz_S := zz_sp (zz_sp (zz_sp (zz_sp c 14 ((zf_1 x m).1 &&& 15)) 15 (zf_2 x m).1) 16 (zf_4 x m).1) 17 (zf_5 x m).1
/-- how many bytes stand behind a code -/
def zf_more (k : Nat) : Int32 := if k < 46 then zc_tab k else -1
theorem IN_fetch_e {c : zz_S} {m : zM} {d : Nat} {w : Nat → Int32} (h : zm_ok m) (x : Int32) {k : Nat} (hk : (zf_5 x m).1 = nI k) (hk2 : k < 256) : IN_fetch_f x (zC c m d w) = IN_fetch_100 (zf_3 x m).1 (zf_more k) (zC (zf_c c x m) (zf_5 x m).2 d w) := by
  have e46 : (46 : Int32) = nI 46 := by decide
  have hk3 : k < 2 ^ 31 := by omega
  unfold IN_fetch_f
  simp only [ME_read_e h, ME_read_e (zf_ok1 h), zz_bd_s, zz_nm_e, zC_sp14, zC_sg14]
  rw [show za_read (x + 1) m = zf_1 x m from rfl]
  rw [show zz_sg (zz_sp c 14 ((zf_1 x m).1 &&& 15)) 14 = (zf_1 x m).1 &&& 15 from rfl, ME_read_e (zf_ok1 h), zz_bd_s]
  rw [show za_read (32 + ((zf_1 x m).1 &&& 15)) (zf_1 x m).2 = zf_2 x m from rfl, zC_sp15, zC_sg15]
  rw [show zz_sg (zz_sp (zz_sp c 14 ((zf_1 x m).1 &&& 15)) 15 (zf_2 x m).1) 15 = (zf_2 x m).1 from rfl, ME_read_e (zf_ok2 h), zz_bd_s]
  rw [show za_read (zf_2 x m).1 (zf_2 x m).2 = zf_3 x m from rfl, ME_read_e (zf_ok3 h), zz_bd_s, show za_read (x + 2) (zf_3 x m).2 = zf_4 x m from rfl, zC_sp16, zC_sg16]
  rw [show zz_sg (zz_sp (zz_sp (zz_sp c 14 ((zf_1 x m).1 &&& 15)) 15 (zf_2 x m).1) 16 (zf_4 x m).1) 16 = (zf_4 x m).1 from rfl, FR_byteAt_e (zf_ok4 h), zz_bd_s, show za_byte (zf_3 x m).1 (zf_4 x m).1 (zf_4 x m).2 = zf_5 x m from rfl, zC_sp17]
  rw [show zz_sp (zz_sp (zz_sp (zz_sp c 14 ((zf_1 x m).1 &&& 15)) 15 (zf_2 x m).1) 16 (zf_4 x m).1) 17 (zf_5 x m).1 = zf_c c x m from rfl, zC_sg17, show zz_sg (zf_c c x m) 17 = (zf_5 x m).1 from rfl, hk]
  unfold zf_more
  by_cases h46 : k < 46
  · rw [if_neg (by rw [e46, nI_leI (by decide) hk3]; omega), if_pos h46, zi_in (by decide) h46, zz_gd_t, nI_clamp hk3]
  · rw [if_pos (by rw [e46, nI_leI (by decide) hk3]; omega), if_neg h46]
/-- no bytes behind it -/
theorem IN_fetch_0 {c : zz_S} {m : zM} {d : Nat} {w : Nat → Int32} (b : Int32) : IN_fetch_100 b 0 (zC c m d w) = some ((), zC (zz_sp (zz_sp c 18 0) 19 (zz_sg c 16 + 1 + 0)) m d w) := by
  unfold IN_fetch_100 IN_fetch_114 IN_fetch_122
  rw [if_pos (by decide), zz_nm_e, zC_sp18]
  unfold IN_fetch_122b
  rw [if_pos (by decide), zz_nm_e, zC_sg16, zC_sp19]
  rfl
theorem IN_fetch_m1 {c : zz_S} {m : zM} {d : Nat} {w : Nat → Int32} (h : zm_ok m) (b : Int32) : IN_fetch_100 b (-1) (zC c m d w) = some ((), zC (zz_sp (zz_sp c 18 0) 19 (zz_sg c 16 + 1 + -1)) (za_fail 9 m) d w) := by
  unfold IN_fetch_100 IN_fetch_114 IN_fetch_122
  rw [if_neg (by decide), ME_fail_e9 h, zz_bd_s, zz_nm_e, zC_sp18]
  unfold IN_fetch_122b
  rw [if_pos (by decide), zz_nm_e, zC_sg16, zC_sp19]
  rfl
theorem IN_fetch_1 {c : zz_S} {m : zM} {d : Nat} {w : Nat → Int32} (h : zm_ok m) (b : Int32) : IN_fetch_100 b 1 (zC c m d w) = some ((), zC (zz_sp (zz_sp (zz_sp c 18 0) 18 (0 * 256 + (za_byte b (zz_sg c 16 + 1) m).1)) 19 (zz_sg c 16 + 1 + 1)) (za_byte b (zz_sg c 16 + 1) m).2 d w) := by
  unfold IN_fetch_100 IN_fetch_114 IN_fetch_122
  rw [if_pos (by decide), zz_nm_e, zC_sp18]
  unfold IN_fetch_122b
  rw [if_neg (by decide), zC_sg16, FR_byteAt_e h, zz_bd_s, zz_nm_e, zC_sp18, zC_sg18]
  unfold IN_fetch_122 IN_fetch_122b
  rw [if_pos (by decide), zz_nm_e, zC_sg16, zC_sp19]
  rfl
theorem IN_fetch_2 {c : zz_S} {m : zM} {d : Nat} {w : Nat → Int32} (h : zm_ok m) (b : Int32) : IN_fetch_100 b 2 (zC c m d w) = some ((), zC (zz_sp (zz_sp (zz_sp (zz_sp c 18 0) 18 (0 * 256 + (za_byte b (zz_sg c 16 + 1) m).1)) 18 ((0 * 256 + (za_byte b (zz_sg c 16 + 1) m).1) * 256 + (za_byte b (zz_sg c 16 + 2) (za_byte b (zz_sg c 16 + 1) m).2).1)) 19 (zz_sg c 16 + 1 + 2)) (za_byte b (zz_sg c 16 + 2) (za_byte b (zz_sg c 16 + 1) m).2).2 d w) := by
  unfold IN_fetch_100 IN_fetch_114 IN_fetch_122
  rw [if_pos (by decide), zz_nm_e, zC_sp18]
  unfold IN_fetch_122b
  rw [if_neg (by decide), zC_sg16, FR_byteAt_e h, zz_bd_s, zz_nm_e, zC_sp18, zC_sg18]
  unfold IN_fetch_122 IN_fetch_122b
  rw [if_neg (by decide), zC_sg16, show (1 : Int32) + 1 = 2 from by decide]
  rw [show zz_sg (zz_sp (zz_sp c 18 0) 18 (zz_sg (zz_sp c 18 0) 18 * 256 + (za_byte b (zz_sg (zz_sp c 18 0) 16 + 1) m).1)) 16 = zz_sg c 16 from rfl, FR_byteAt_e (za_byte_ok _ _ h), zz_bd_s, zz_nm_e, zC_sp18, zC_sg18]
  unfold IN_fetch_122 IN_fetch_122b
  rw [if_pos (by decide), zz_nm_e, zC_sg16, zC_sp19]
  rfl
/-! undoing -/
def za_und : Nat → zM → zM
  | 0, m => zmsk m 0
  | n + 1, m => za_und n (zmsW m (upd (zmW m) (zmP m n).toNatClampNeg (zmB m n)))
def za_undo (m : zM) : zM := za_und (zmk m) m
theorem za_und_ok : ∀ (n : Nat) (m : zM), zm_ok m → zm_ok (za_und n m)
  | 0, _, h => ⟨h.1, h.2.1, h.2.2.1, h.2.2.2.1, h.2.2.2.2⟩
  | n + 1, m, h => za_und_ok n _ ⟨zu_all (P := fun v => ∃ w, w < 65536 ∧ v = nI w) h.1 (h.2.2.2.1 n), h.2.1, h.2.2.1, h.2.2.2.1, h.2.2.2.2⟩
theorem za_undo_ok {m : zM} (h : zm_ok m) : zm_ok (za_undo m) := za_und_ok _ _ h
theorem za_und_f : ∀ (n : Nat) (m : zM), zmf (za_und n m) = zmf m
  | 0, _ => rfl
  | n + 1, m => za_und_f n _
theorem za_und_k : ∀ (n : Nat) (m : zM), zmk (za_und n m) = 0
  | 0, _ => rfl
  | n + 1, m => za_und_k n _
theorem za_und_sk : ∀ (n : Nat) (m : zM) (k : Nat), za_und n (zmsk m k) = za_und n m
  | 0, _, _ => rfl
  | n + 1, m, k => za_und_sk n (zmsW m (upd (zmW m) (zmP m n).toNatClampNeg (zmB m n))) k
theorem ME_undo_7_e {c : zz_S} {d : Nat} {w : Nat → Int32} : ∀ (n F : Nat) (m : zM), n < F → n ≤ 16 → zm_ok m → ME_undo_7 F (nI n - 1) (zC c m d w) = some ((), zC c (za_und n m) d w)
  | 0, F + 1, m, hF, hn, h => by
    show ME_undo_7b (ME_undo_7 F) (nI 0 - 1) (zC c m d w) = _
    unfold ME_undo_7b
    rw [if_pos (by decide), zz_nm_e, ← nI_0, zC_sp0]
    rfl
  | n + 1, F + 1, m, hF, hn, h => by
    show ME_undo_7b (ME_undo_7 F) (nI (n + 1) - 1) (zC c m d w) = _
    unfold ME_undo_7b
    obtain ⟨p, hp, ep⟩ := h.2.2.1 n
    have hn31 : n < 2 ^ 31 := by omega
    rw [nI_pred, if_neg (nI_pos hn31), zi_in (by decide) (by omega), zz_gd_t, zz_gd_t, nI_clamp hn31, zC_ag4, zz_nm_e, ep, zi_in (by decide) hp, zz_gd_t, nI_clamp (by omega), zC_ag5, zC_ap0, zz_nm_e]
    have e : nI n + (-1 : Int32) = nI n - 1 := by rw [Int32.sub_eq_add_neg]
    have hok : zm_ok (zmsW m (upd (zmW m) p (zmB m n))) := ⟨zu_all (P := fun v => ∃ w, w < 65536 ∧ v = nI w) h.1 (h.2.2.2.1 n), h.2.1, h.2.2.1, h.2.2.2.1, h.2.2.2.2⟩
    rw [e, ME_undo_7_e n F _ (by omega) (by omega) hok]
    show _ = some ((), zC c (za_und n (zmsW m (upd (zmW m) (zmP m n).toNatClampNeg (zmB m n)))) d w)
    rw [ep, nI_clamp (by omega)]
theorem ME_undo_e {c : zz_S} {m : zM} {d : Nat} {w : Nat → Int32} (h : zm_ok m) (hk : zmk m ≤ 16) : ME_undo_f (zC c m d w) = some ((), zC c (za_undo m) d w) := by
  unfold ME_undo_f
  rw [zC_sg0, zz_nm_e]
  exact ME_undo_7_e (zmk m) 18 m (by omega) hk h
theorem MO_undo_0_r {c : zz_S} {d : Nat} {w : Nat → Int32} : ∀ (n F : Nat) (m : zM), n < F → n ≤ 40 → zmk m = n → zm_ok m → MO_undo_0 F (zR c m d w) = some ((), zR c (za_und n m) d w)
  | 0, F + 1, m, hF, hn, hk, h => by
    show MO_undo_0b (MO_undo_0 F) (zR c m d w) = _
    unfold MO_undo_0b
    rw [zR_sg1, if_pos (by rw [hk]; decide)]
    show some ((), zR c m d w) = some ((), zR c (zmsk m 0) d w)
    rw [← hk]
    rfl
  | n + 1, F + 1, m, hF, hn, hk, h => by
    show MO_undo_0b (MO_undo_0 F) (zR c m d w) = _
    unfold MO_undo_0b
    obtain ⟨p, hp, ep⟩ := h.2.2.1 n
    have hn31 : n < 2 ^ 31 := by omega
    rw [zR_sg1, hk, if_neg (by rw [zi_le0 (by omega)]; omega), zz_nm_e, nI_pred, zR_sp1, zR_sg1, zmk_k, zz_nm_e, zi_in (by decide) (by omega), zz_gd_t, zz_nm_e, zi_in (by decide) (by omega), zz_gd_t, nI_clamp hn31, zR_ag14, zmP_k, zz_nm_e, ep, zi_in (by decide) hp, zz_gd_t, nI_clamp (by omega), zR_ag15, zmB_k, zR_ap3, zmW_k, zz_nm_e]
    have hok : zm_ok (zmsW (zmsk m n) (upd (zmW m) p (zmB m n))) := ⟨zu_all (P := fun v => ∃ w, w < 65536 ∧ v = nI w) h.1 (h.2.2.2.1 n), h.2.1, h.2.2.1, h.2.2.2.1, h.2.2.2.2⟩
    rw [MO_undo_0_r n F _ (by omega) (by omega) rfl hok]
    show _ = some ((), zR c (za_und n (zmsW m (upd (zmW m) (zmP m n).toNatClampNeg (zmB m n)))) d w)
    rw [ep, nI_clamp (by omega), ← za_und_sk n (zmsW m (upd (zmW m) p (zmB m n))) n]
    rfl
theorem MO_undo_r {c : zz_S} {m : zM} {d : Nat} {w : Nat → Int32} (h : zm_ok m) (hk : zmk m ≤ 40) : MO_undo_f (zR c m d w) = some ((), zR c (za_undo m) d w) :=
  MO_undo_0_r (zmk m) 42 m (by omega) hk rfl h
