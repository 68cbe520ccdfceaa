/-! a step of the component, an instruction of the reference -/
theorem zz_sp_sp (c : zz_S) (k : Nat) (a b : Int32) : zz_sp (zz_sp c k a) k b = zz_sp c k b := by
  refine zS_ext (fun j => ?_) (fun _ _ => rfl) (fun _ => rfl) (fun _ _ => rfl)
  rw [zz_sg_sp, zz_sg_sp, zz_sg_sp]
  by_cases h : j = k
  · rw [if_pos h, if_pos h]
  · rw [if_neg h, if_neg h, if_neg h]
def zb0 (t : Nat) (c : zz_S) : zz_S := zz_sp (zz_sp (zz_sp (zz_sp (zz_sp (zz_qp c 0 (some t)) 3 (zz_ag c 9 t)) 4 1) 5 0) 6 0) 7 0
def zb1 (r : zz_S) : zz_S := zz_sp (zz_sp (zz_sp r 9 0) 10 0) 11 (-1)
def zb_m (m : zM) : zM := zmsf (zmsk m 0) 0
theorem zb_ok {m : zM} (h : zm_ok m) : zm_ok (zb_m m) := ⟨h.1, h.2.1, h.2.2.1, h.2.2.2.1, h.2.2.2.2.1, h.2.2.2.2.2.1, (by decide : (0 : Nat) < 16)⟩
theorem PR_begin_e {t dt : Nat} {c : zz_S} {m : zM} {d : Nat} {w : Nat → Int32} (hd : dt ≤ 8) (h10 : zz_ag c 10 t = nI dt) : ∃ w', PR_beginWith_f t (zC c m d w) = some ((), zC (zb0 t c) (zb_m m) dt w') ∧ ∀ j, j < dt → w' j = zz_ag c (20 + t) j := by
  obtain ⟨w', e, h⟩ := WS_load_e (t := t) (c := c) (m := zb_m m) hd dt (9 - dt) 0 w (by omega)
  rw [show 9 - dt + dt + 1 = 10 from by omega] at e
  refine ⟨w', ?_, fun j hj => by rw [h j hj, if_pos (Nat.zero_le _)]⟩
  have e0 : zz_sp (zC c m d w) 0 (0 : Int32) = zC c (zmsk m 0) d w := zC_sp0 c m d w 0
  have e1 : zz_sp (zC c (zmsk m 0) d w) 1 (0 : Int32) = zC c (zb_m m) d w := zC_sp1 c _ d w 0
  unfold PR_beginWith_f ME_begin_f WS_loadFrom_f
  rw [zz_nm_e, e0, zz_nm_e, e1, zz_bd_s, zC_ag10, h10, zC_sp13, zz_nm_e]
  have e' : WS_loadFrom_10 10 t (0 : Int32) (zC c (zb_m m) dt w) = some ((), zC c (zb_m m) dt w') := e
  rw [e', zz_bd_s, zC_qp, zz_nm_e, zC_ag9, zC_sp3, zz_nm_e, zz_bo_1, zz_gd_t, zC_sp4, zz_nm_e, zz_bo_0, zz_gd_t, zC_sp5, zz_nm_e, zz_gd_t, zC_sp6, zz_nm_e, zz_gd_t, zC_sp7, zz_nm_e]
  rfl
theorem MO_begin_e {t dt : Nat} {fr : Int32} {r : zz_S} {m : zM} {e : Nat} {v : Nat → Int32} (ht : t < 6) (h3 : zz_sg r 3 = nI t) (h7 : zz_ag r 7 t = fr) (h8 : zz_ag r 8 t = nI dt) : ∃ v', MO_instruction_f (zR r m e v) = MO_instruction_50 2 fr (nI 8) (zR (zb1 r) (zb_m m) dt v') ∧ ∀ j, j < 8 → v' j = zz_ag r 9 (8 * t + j) := by
  obtain ⟨v', q, h⟩ := MO_load_e (t := t) (fr := fr) (r := zb1 r) (m := zb_m m) (e := dt) ht h3 8 1 0 v (by decide)
  refine ⟨v', ?_, fun j hj => by rw [h j hj, if_pos (Nat.zero_le _)]; rfl⟩
  have e0 : zz_sp (zR r m e v) 2 (0 : Int32) = zR r (zmsf m 0) e v := zR_sp2 r m e v 0
  have e1 : zz_sp (zR r (zmsf m 0) e v) 1 (0 : Int32) = zR r (zb_m m) e v := zR_sp1 r _ e v 0
  unfold MO_instruction_f
  rw [zz_nm_e, e0, zz_nm_e, e1, zz_nm_e, zR_sp9, zz_bo_0, zz_gd_t, zz_nm_e, zR_sp10, zz_nm_e, zR_sp11, zz_nm_e, zR_sg3, show zz_sg (zz_sp (zz_sp (zz_sp r 9 0) 10 0) 11 (-1)) 3 = zz_sg r 3 from rfl, h3, zi_in (by decide) ht, zz_gd_t, nI_clamp (by omega), zz_nm_e, zR_ag7, show zz_ag (zz_sp (zz_sp (zz_sp r 9 0) 10 0) 11 (-1)) 7 t = zz_ag r 7 t from rfl, h7, zz_nm_e, zi_in (by decide) ht, zz_gd_t, nI_clamp (by omega), zR_ag8, show zz_ag (zz_sp (zz_sp (zz_sp r 9 0) 10 0) 11 (-1)) 8 t = zz_ag r 8 t from rfl, h8, zR_sp4, zz_nm_e]
  exact q
def zf_r (r : zz_S) (x : Int32) (fi : Nat) (m : zM) : zz_S := zz_sp (zz_sp (zz_sp (zz_sp r 8 ((zf_1 x m).1 &&& 15)) 7 (zf_2 x m).1) 6 (zf_3 x m).1) 5 (nI ((fi + 1) % 65536))
theorem MO_next_e {r : zz_S} {m : zM} {e fi : Nat} {v : Nat → Int32} (hm : zm_ok m) (h5 : zz_sg r 5 = nI (fi % 65536)) : MO_nextByte_f (zR r m e v) = some ((za_byte (zz_sg r 6) (nI fi) m).1, zR (zz_sp r 5 (nI ((fi + 1) % 65536))) (za_byte (zz_sg r 6) (nI fi) m).2 e v) := by
  unfold MO_nextByte_f MO_low_f
  rw [zR_sg6, zR_sg5, h5, MO_byteAt_r hm _ (by omega), za_byte_low, zz_bd_s, zR_sg5, h5, zz_bd_s, zz_nm_e, nI_1, zi_16', zR_sp5, show (fi % 65536 + 1) % 65536 = (fi + 1) % 65536 from by omega]
theorem MO_fetch_e {fr : Int32} {fi : Nat} {r : zz_S} {m : zM} {e : Nat} {v : Nat → Int32} (hm : zm_ok m) (hfi : fi < 65536) (h4 : (zf_4 fr m).1 = nI fi) : MO_instruction_50 2 fr (nI 8) (zR r m e v) = if (zz_sg (zR (zf_r r fr fi m) (zf_5 fr m).2 e v) 2) = 0 then zact fr (MO_act_f (nI fi) (zf_5 fr m).1 (zR (zf_r r fr fi m) (zf_5 fr m).2 e v)) else MO_instruction_164 fr (zR (zf_r r fr fi m) (zf_5 fr m).2 e v) := by
  show MO_instruction_50b (MO_instruction_50 1) fr (nI 8) (zR r m e v) = _
  unfold MO_instruction_50b
  rw [if_pos (by decide), MO_read_r hm, zz_bd_s, show za_read (fr + 1) m = zf_1 fr m from rfl, zR_sp8, zz_nm_e, zR_sg8, show zz_sg (zz_sp r 8 ((zf_1 fr m).1 &&& 15)) 8 = (zf_1 fr m).1 &&& 15 from rfl, MO_read_r (zf_ok1 hm), zz_bd_s, show za_read (32 + ((zf_1 fr m).1 &&& 15)) (zf_1 fr m).2 = zf_2 fr m from rfl, zR_sp7, zz_nm_e, zR_sg7, show zz_sg (zz_sp (zz_sp r 8 ((zf_1 fr m).1 &&& 15)) 7 (zf_2 fr m).1) 7 = (zf_2 fr m).1 from rfl, MO_read_r (zf_ok2 hm), zz_bd_s, show za_read (zf_2 fr m).1 (zf_2 fr m).2 = zf_3 fr m from rfl, zR_sp6, zz_nm_e, MO_read_r (zf_ok3 hm), zz_bd_s, show za_read (fr + 2) (zf_3 fr m).2 = zf_4 fr m from rfl, h4, zR_sp5, zz_nm_e, zz_nm_e, MO_next_e (fi := fi) (zf_ok4 hm) (by rw [zz_sg_sp, if_pos rfl, Nat.mod_eq_of_lt hfi]), zz_bd_s, zz_sp_sp, zR_sg5]
  have e5 : za_byte (zz_sg (zz_sp (zz_sp (zz_sp (zz_sp r 8 ((zf_1 fr m).1 &&& 15)) 7 (zf_2 fr m).1) 6 (zf_3 fr m).1) 5 (nI fi)) 6) (nI fi) (zf_4 fr m).2 = zf_5 fr m := by
    unfold zf_5
    rw [h4]
    rfl
  rw [e5]
  rfl
