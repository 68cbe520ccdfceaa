/-! the instructions, one by one: those that end at the next one -/
theorem zL_c2 {n D : Nat} {c r C R : zz_S} (h : zL n D c r C R) : zz_sg C 2 = zz_sg c 2 := by
  obtain ⟨m, d, w, e, v, rfl, rfl, -⟩ := h; rfl
theorem zL_c3 {n D : Nat} {c r C R : zz_S} (h : zL n D c r C R) : zz_sg C 3 = zz_sg c 3 := by
  obtain ⟨m, d, w, e, v, rfl, rfl, -⟩ := h; rfl
theorem zL_c4 {n D : Nat} {c r C R : zz_S} (h : zL n D c r C R) : zz_sg C 4 = zz_sg c 4 := by
  obtain ⟨m, d, w, e, v, rfl, rfl, -⟩ := h; rfl
theorem zL_c5 {n D : Nat} {c r C R : zz_S} (h : zL n D c r C R) : zz_sg C 5 = zz_sg c 5 := by
  obtain ⟨m, d, w, e, v, rfl, rfl, -⟩ := h; rfl
theorem zL_c6 {n D : Nat} {c r C R : zz_S} (h : zL n D c r C R) : zz_sg C 6 = zz_sg c 6 := by
  obtain ⟨m, d, w, e, v, rfl, rfl, -⟩ := h; rfl
theorem zL_c7 {n D : Nat} {c r C R : zz_S} (h : zL n D c r C R) : zz_sg C 7 = zz_sg c 7 := by
  obtain ⟨m, d, w, e, v, rfl, rfl, -⟩ := h; rfl
theorem zL_c8 {n D : Nat} {c r C R : zz_S} (h : zL n D c r C R) : zz_sg C 8 = zz_sg c 8 := by
  obtain ⟨m, d, w, e, v, rfl, rfl, -⟩ := h; rfl
theorem zL_c9 {n D : Nat} {c r C R : zz_S} (h : zL n D c r C R) : zz_sg C 9 = zz_sg c 9 := by
  obtain ⟨m, d, w, e, v, rfl, rfl, -⟩ := h; rfl
theorem zL_c10 {n D : Nat} {c r C R : zz_S} (h : zL n D c r C R) : zz_sg C 10 = zz_sg c 10 := by
  obtain ⟨m, d, w, e, v, rfl, rfl, -⟩ := h; rfl
theorem zL_c11 {n D : Nat} {c r C R : zz_S} (h : zL n D c r C R) : zz_sg C 11 = zz_sg c 11 := by
  obtain ⟨m, d, w, e, v, rfl, rfl, -⟩ := h; rfl
theorem zL_c12 {n D : Nat} {c r C R : zz_S} (h : zL n D c r C R) : zz_sg C 12 = zz_sg c 12 := by
  obtain ⟨m, d, w, e, v, rfl, rfl, -⟩ := h; rfl
theorem zL_c14 {n D : Nat} {c r C R : zz_S} (h : zL n D c r C R) : zz_sg C 14 = zz_sg c 14 := by
  obtain ⟨m, d, w, e, v, rfl, rfl, -⟩ := h; rfl
theorem zL_c15 {n D : Nat} {c r C R : zz_S} (h : zL n D c r C R) : zz_sg C 15 = zz_sg c 15 := by
  obtain ⟨m, d, w, e, v, rfl, rfl, -⟩ := h; rfl
theorem zL_c16 {n D : Nat} {c r C R : zz_S} (h : zL n D c r C R) : zz_sg C 16 = zz_sg c 16 := by
  obtain ⟨m, d, w, e, v, rfl, rfl, -⟩ := h; rfl
theorem zL_c17 {n D : Nat} {c r C R : zz_S} (h : zL n D c r C R) : zz_sg C 17 = zz_sg c 17 := by
  obtain ⟨m, d, w, e, v, rfl, rfl, -⟩ := h; rfl
theorem zL_c18 {n D : Nat} {c r C R : zz_S} (h : zL n D c r C R) : zz_sg C 18 = zz_sg c 18 := by
  obtain ⟨m, d, w, e, v, rfl, rfl, -⟩ := h; rfl
theorem zL_c19 {n D : Nat} {c r C R : zz_S} (h : zL n D c r C R) : zz_sg C 19 = zz_sg c 19 := by
  obtain ⟨m, d, w, e, v, rfl, rfl, -⟩ := h; rfl
theorem zL_r0 {n D : Nat} {c r C R : zz_S} (h : zL n D c r C R) : zz_sg R 0 = zz_sg r 0 := by
  obtain ⟨m, d, w, e, v, rfl, rfl, -⟩ := h; rfl
theorem zL_r3 {n D : Nat} {c r C R : zz_S} (h : zL n D c r C R) : zz_sg R 3 = zz_sg r 3 := by
  obtain ⟨m, d, w, e, v, rfl, rfl, -⟩ := h; rfl
theorem zL_r5 {n D : Nat} {c r C R : zz_S} (h : zL n D c r C R) : zz_sg R 5 = zz_sg r 5 := by
  obtain ⟨m, d, w, e, v, rfl, rfl, -⟩ := h; rfl
theorem zL_r6 {n D : Nat} {c r C R : zz_S} (h : zL n D c r C R) : zz_sg R 6 = zz_sg r 6 := by
  obtain ⟨m, d, w, e, v, rfl, rfl, -⟩ := h; rfl
theorem zL_r7 {n D : Nat} {c r C R : zz_S} (h : zL n D c r C R) : zz_sg R 7 = zz_sg r 7 := by
  obtain ⟨m, d, w, e, v, rfl, rfl, -⟩ := h; rfl
theorem zL_r8 {n D : Nat} {c r C R : zz_S} (h : zL n D c r C R) : zz_sg R 8 = zz_sg r 8 := by
  obtain ⟨m, d, w, e, v, rfl, rfl, -⟩ := h; rfl
theorem zL_r9 {n D : Nat} {c r C R : zz_S} (h : zL n D c r C R) : zz_sg R 9 = zz_sg r 9 := by
  obtain ⟨m, d, w, e, v, rfl, rfl, -⟩ := h; rfl
theorem zL_r10 {n D : Nat} {c r C R : zz_S} (h : zL n D c r C R) : zz_sg R 10 = zz_sg r 10 := by
  obtain ⟨m, d, w, e, v, rfl, rfl, -⟩ := h; rfl
theorem zL_r11 {n D : Nat} {c r C R : zz_S} (h : zL n D c r C R) : zz_sg R 11 = zz_sg r 11 := by
  obtain ⟨m, d, w, e, v, rfl, rfl, -⟩ := h; rfl
theorem zL_r12 {n D : Nat} {c r C R : zz_S} (h : zL n D c r C R) : zz_sg R 12 = zz_sg r 12 := by
  obtain ⟨m, d, w, e, v, rfl, rfl, -⟩ := h; rfl
theorem zL_r13 {n D : Nat} {c r C R : zz_S} (h : zL n D c r C R) : zz_sg R 13 = zz_sg r 13 := by
  obtain ⟨m, d, w, e, v, rfl, rfl, -⟩ := h; rfl
theorem zL_ca7 {n D : Nat} {c r C R : zz_S} (h : zL n D c r C R) (i : Nat) : zz_ag C 7 i = zz_ag c 7 i := by
  obtain ⟨m, d, w, e, v, rfl, rfl, -⟩ := h; rfl
theorem zL_ca8 {n D : Nat} {c r C R : zz_S} (h : zL n D c r C R) (i : Nat) : zz_ag C 8 i = zz_ag c 8 i := by
  obtain ⟨m, d, w, e, v, rfl, rfl, -⟩ := h; rfl
theorem zL_ca9 {n D : Nat} {c r C R : zz_S} (h : zL n D c r C R) (i : Nat) : zz_ag C 9 i = zz_ag c 9 i := by
  obtain ⟨m, d, w, e, v, rfl, rfl, -⟩ := h; rfl
theorem zL_ca10 {n D : Nat} {c r C R : zz_S} (h : zL n D c r C R) (i : Nat) : zz_ag C 10 i = zz_ag c 10 i := by
  obtain ⟨m, d, w, e, v, rfl, rfl, -⟩ := h; rfl
theorem zL_ca11 {n D : Nat} {c r C R : zz_S} (h : zL n D c r C R) (i : Nat) : zz_ag C 11 i = zz_ag c 11 i := by
  obtain ⟨m, d, w, e, v, rfl, rfl, -⟩ := h; rfl
theorem zL_ca12 {n D : Nat} {c r C R : zz_S} (h : zL n D c r C R) (i : Nat) : zz_ag C 12 i = zz_ag c 12 i := by
  obtain ⟨m, d, w, e, v, rfl, rfl, -⟩ := h; rfl
theorem zL_ca13 {n D : Nat} {c r C R : zz_S} (h : zL n D c r C R) (i : Nat) : zz_ag C 13 i = zz_ag c 13 i := by
  obtain ⟨m, d, w, e, v, rfl, rfl, -⟩ := h; rfl
theorem zL_ca14 {n D : Nat} {c r C R : zz_S} (h : zL n D c r C R) (i : Nat) : zz_ag C 14 i = zz_ag c 14 i := by
  obtain ⟨m, d, w, e, v, rfl, rfl, -⟩ := h; rfl
theorem zL_ra5 {n D : Nat} {c r C R : zz_S} (h : zL n D c r C R) (i : Nat) : zz_ag R 5 i = zz_ag r 5 i := by
  obtain ⟨m, d, w, e, v, rfl, rfl, -⟩ := h; rfl
theorem zL_ra6 {n D : Nat} {c r C R : zz_S} (h : zL n D c r C R) (i : Nat) : zz_ag R 6 i = zz_ag r 6 i := by
  obtain ⟨m, d, w, e, v, rfl, rfl, -⟩ := h; rfl
theorem zL_ra7 {n D : Nat} {c r C R : zz_S} (h : zL n D c r C R) (i : Nat) : zz_ag R 7 i = zz_ag r 7 i := by
  obtain ⟨m, d, w, e, v, rfl, rfl, -⟩ := h; rfl
theorem zL_ra8 {n D : Nat} {c r C R : zz_S} (h : zL n D c r C R) (i : Nat) : zz_ag R 8 i = zz_ag r 8 i := by
  obtain ⟨m, d, w, e, v, rfl, rfl, -⟩ := h; rfl
theorem zL_ra9 {n D : Nat} {c r C R : zz_S} (h : zL n D c r C R) (i : Nat) : zz_ag R 9 i = zz_ag r 9 i := by
  obtain ⟨m, d, w, e, v, rfl, rfl, -⟩ := h; rfl
theorem zL_ra10 {n D : Nat} {c r C R : zz_S} (h : zL n D c r C R) (i : Nat) : zz_ag R 10 i = zz_ag r 10 i := by
  obtain ⟨m, d, w, e, v, rfl, rfl, -⟩ := h; rfl
theorem zL_ra11 {n D : Nat} {c r C R : zz_S} (h : zL n D c r C R) (i : Nat) : zz_ag R 11 i = zz_ag r 11 i := by
  obtain ⟨m, d, w, e, v, rfl, rfl, -⟩ := h; rfl
theorem zL_ra12 {n D : Nat} {c r C R : zz_S} (h : zL n D c r C R) (i : Nat) : zz_ag R 12 i = zz_ag r 12 i := by
  obtain ⟨m, d, w, e, v, rfl, rfl, -⟩ := h; rfl
theorem zL_ra13 {n D : Nat} {c r C R : zz_S} (h : zL n D c r C R) (i : Nat) : zz_ag R 13 i = zz_ag r 13 i := by
  obtain ⟨m, d, w, e, v, rfl, rfl, -⟩ := h; rfl
theorem zL_ra17 {n D : Nat} {c r C R : zz_S} (h : zL n D c r C R) (i : Nat) : zz_ag R 17 i = zz_ag r 17 i := by
  obtain ⟨m, d, w, e, v, rfl, rfl, -⟩ := h; rfl
theorem zL_q {n D : Nat} {c r C R : zz_S} (h : zL n D c r C R) (j : Nat) : zz_qg C j = zz_qg c j := by
  obtain ⟨m, d, w, e, v, rfl, rfl, -⟩ := h; rfl
theorem zz_sp_self (c : zz_S) (k : Nat) : zz_sp c k (zz_sg c k) = c := by
  refine zS_ext (fun j => ?_) (fun _ _ => rfl) (fun _ => rfl) (fun _ _ => rfl)
  show (bif Nat.beq j k then zz_sg c k else zz_sg c j) = zz_sg c j
  cases e : Nat.beq j k with
  | true => rw [zb_t e]; rfl
  | false => rfl
def zS (fr gl : Int32) (gn fi nx n : Nat) (c r : zz_S) : Prop := zz_sg c 3 = fr ∧ zz_sg c 15 = gl ∧ zz_sg r 7 = gl ∧ zz_sg c 14 = nI gn ∧ zz_sg r 8 = nI gn ∧ zz_sg c 16 = nI fi ∧ zz_sg c 18 = nI n ∧ zz_sg c 19 = nI nx ∧ zz_sg r 5 = nI (nx % 65536) ∧ zWd fr ∧ zWd gl ∧ gn < 16 ∧ fi < 65536 ∧ n < 65536
def zQ1 (c r : zz_S) (_ : Unit) (C : zz_S) (b : Int32) (R : zz_S) : Prop := b = 1 ∧ ∃ v u, zL 7 9 (zz_sp c 19 v) (zz_sp r 5 u) C R ∧ (zF C → v &&& 65535 = u &&& 65535)
theorem zQ1_of {fr gl : Int32} {gn fi nx n n' D : Nat} {c r C R : zz_S} (hs : zS fr gl gn fi nx n c r) (h : zL n' D c r C R) (hn : n' ≤ 7) (hD : D ≤ 9) : zQ1 c r () C 1 R := by
  refine ⟨rfl, zz_sg c 19, zz_sg r 5, ?_, fun _ => ?_⟩
  · rw [zz_sp_self, zz_sp_self]; exact zL_up h hn hD (by decide)
  · obtain ⟨h3, h15, h7, h14, h8, h16, h18, h19, h5, -⟩ := hs
    rw [h19, h5, zi_16', zi_16', Nat.mod_mod]
theorem zL_sp {n D : Nat} {c r C R : zz_S} (h : zL n D c r C R) (k : Nat) (v : Int32) (h0 : Nat.beq 0 k = false) (h1 : Nat.beq 1 k = false) (h13 : Nat.beq 13 k = false) : zL n D (zz_sp c k v) r (zz_sp C k v) R := by
  obtain ⟨m, d, w, e, u, rfl, rfl, q⟩ := h
  exact ⟨m, d, w, e, u, ((zpC_spG _ _ k v h0 h1).trans (congrArg (fun z => zpC z m) (zkC_spG c d w k v h13))), rfl, q⟩
theorem zL_rsp {n D : Nat} {c r C R : zz_S} (h : zL n D c r C R) (k : Nat) (v : Int32) (h0 : Nat.beq 1 k = false) (h1 : Nat.beq 2 k = false) (h4 : Nat.beq 4 k = false) : zL n D c (zz_sp r k v) C (zz_sp R k v) := by
  obtain ⟨m, d, w, e, u, rfl, rfl, q⟩ := h
  exact ⟨m, d, w, e, u, rfl, ((zpM_spG _ _ k v h0 h1).trans (congrArg (fun z => zpM z m) (zkM_spG r e u k v h4))), q⟩

theorem zo_0 {fr gl : Int32} {gn fi nx n : Nat} {c r C R : zz_S} (h : zL 0 8 c r C R) (hs : zS fr gl gn fi nx n c r) (h17 : zz_sg c 17 = 0) : zr (PR_move_f C) (MO_act_46 (nI fi) 0 fr (nI n) R) (zQ1 c r) := by
  have hs0 := hs
  obtain ⟨h3, h15, h7, h14, h8, h16, h18, h19, h5, hfr, hgl, hgn, hfi, hn⟩ := hs
  unfold PR_move_f MO_act_46
  simp (decide := true) only [zz_nm_e, zL_c17 h, h17, zL_c18 h, h18, zL_c3 h, h3, zL_c15 h, h15, zL_r7 h, h7, ↓reduceIte]
  exact zr_ret (zQ1_of hs0 h (by decide) (by decide))
theorem zo_1 {fr gl : Int32} {gn fi nx n : Nat} {c r C R : zz_S} (h : zL 0 8 c r C R) (hs : zS fr gl gn fi nx n c r) (h17 : zz_sg c 17 = 1) : zr (PR_move_f C) (MO_act_46 (nI fi) 1 fr (nI n) R) (zQ1 c r) := by
  have hs0 := hs
  obtain ⟨h3, h15, h7, h14, h8, h16, h18, h19, h5, hfr, hgl, hgn, hfi, hn⟩ := hs
  unfold PR_move_f MO_act_46
  simp (decide := true) only [zz_nm_e, zL_c17 h, h17, zL_c18 h, h18, zL_c3 h, h3, zL_c15 h, h15, zL_r7 h, h7, ↓reduceIte]
  exact zr_bd (zL_push h (by decide) (fun _ => rfl)) (fun _ C1 _ R1 q => zr_ret (zQ1_of hs0 q.1 (by decide) (by decide)))
theorem zo_3 {fr gl : Int32} {gn fi nx n : Nat} {c r C R : zz_S} (h : zL 0 8 c r C R) (hs : zS fr gl gn fi nx n c r) (h17 : zz_sg c 17 = 3) : zr (PR_move_f C) (MO_act_46 (nI fi) 3 fr (nI n) R) (zQ1 c r) := by
  have hs0 := hs
  obtain ⟨h3, h15, h7, h14, h8, h16, h18, h19, h5, hfr, hgl, hgn, hfi, hn⟩ := hs
  unfold PR_move_f MO_act_46
  simp (decide := true) only [zz_nm_e, zL_c17 h, h17, zL_c18 h, h18, zL_c3 h, h3, zL_c15 h, h15, zL_r7 h, h7, ↓reduceIte]
  exact zr_bd (zL_read h (fun _ => rfl)) (fun x C1 y R1 q => zr_bd (zL_push q.1 (by decide) (fun _ => by rw [q.2.2.1])) (fun _ C2 _ R2 q2 => zr_ret (zQ1_of hs0 q2.1 (by decide) (by decide))))
theorem zo_4 {fr gl : Int32} {gn fi nx n : Nat} {c r C R : zz_S} (h : zL 0 8 c r C R) (hs : zS fr gl gn fi nx n c r) (h17 : zz_sg c 17 = 4) : zr (PR_move_f C) (MO_act_46 (nI fi) 4 fr (nI n) R) (zQ1 c r) := by
  have hs0 := hs
  obtain ⟨h3, h15, h7, h14, h8, h16, h18, h19, h5, hfr, hgl, hgn, hfi, hn⟩ := hs
  unfold PR_move_f MO_act_46
  simp (decide := true) only [zz_nm_e, zL_c17 h, h17, zL_c18 h, h18, zL_c3 h, h3, zL_c15 h, h15, zL_r7 h, h7, ↓reduceIte]
  exact zr_bd (zL_pop h) (fun x C1 y R1 q => zr_bd (zL_write q.1 (by decide) (fun z => ⟨rfl, by rw [(q.2.2 z).2]⟩)) (fun _ C2 _ R2 q2 => zr_ret (zQ1_of hs0 q2.1 (by decide) (by decide))))
theorem zo_5 {fr gl : Int32} {gn fi nx n : Nat} {c r C R : zz_S} (h : zL 0 8 c r C R) (hs : zS fr gl gn fi nx n c r) (h17 : zz_sg c 17 = 5) : zr (PR_move_f C) (MO_act_46 (nI fi) 5 fr (nI n) R) (zQ1 c r) := by
  have hs0 := hs
  obtain ⟨h3, h15, h7, h14, h8, h16, h18, h19, h5, hfr, hgl, hgn, hfi, hn⟩ := hs
  unfold PR_move_f MO_act_46
  simp (decide := true) only [zz_nm_e, zL_c17 h, h17, zL_c18 h, h18, zL_c3 h, h3, zL_c15 h, h15, zL_r7 h, h7, ↓reduceIte]
  exact zr_bd (zL_read h (fun _ => rfl)) (fun x C1 y R1 q => zr_bd (zL_push q.1 (by decide) (fun _ => by rw [q.2.2.1])) (fun _ C2 _ R2 q2 => zr_ret (zQ1_of hs0 q2.1 (by decide) (by decide))))
theorem zo_6 {fr gl : Int32} {gn fi nx n : Nat} {c r C R : zz_S} (h : zL 0 8 c r C R) (hs : zS fr gl gn fi nx n c r) (h17 : zz_sg c 17 = 6) : zr (PR_move_f C) (MO_act_46 (nI fi) 6 fr (nI n) R) (zQ1 c r) := by
  have hs0 := hs
  obtain ⟨h3, h15, h7, h14, h8, h16, h18, h19, h5, hfr, hgl, hgn, hfi, hn⟩ := hs
  unfold PR_move_f MO_act_46
  simp (decide := true) only [zz_nm_e, zL_c17 h, h17, zL_c18 h, h18, zL_c3 h, h3, zL_c15 h, h15, zL_r7 h, h7, ↓reduceIte]
  exact zr_bd (zL_pop h) (fun x C1 y R1 q => zr_bd (zL_write q.1 (by decide) (fun z => ⟨rfl, by rw [(q.2.2 z).2]⟩)) (fun _ C2 _ R2 q2 => zr_ret (zQ1_of hs0 q2.1 (by decide) (by decide))))
theorem zo_7 {fr gl : Int32} {gn fi nx n : Nat} {c r C R : zz_S} (h : zL 0 8 c r C R) (hs : zS fr gl gn fi nx n c r) (h17 : zz_sg c 17 = 7) : zr (PR_move_f C) (MO_act_46 (nI fi) 7 fr (nI n) R) (zQ1 c r) := by
  have hs0 := hs
  obtain ⟨h3, h15, h7, h14, h8, h16, h18, h19, h5, hfr, hgl, hgn, hfi, hn⟩ := hs
  unfold PR_move_f MO_act_46
  simp (decide := true) only [zz_nm_e, zL_c17 h, h17, zL_c18 h, h18, zL_c3 h, h3, zL_c15 h, h15, zL_r7 h, h7, ↓reduceIte]
  exact zr_bd (zL_pop h) (fun x C1 y R1 q => zr_bd (zL_read q.1 (fun z => by rw [(q.2.2 z).2])) (fun x2 C2 y2 R2 q2 => zr_bd (zL_push q2.1 (by decide) (fun _ => by rw [q2.2.2.1])) (fun _ C3 _ R3 q3 => zr_ret (zQ1_of hs0 q3.1 (by decide) (by decide)))))
theorem zo_8 {fr gl : Int32} {gn fi nx n : Nat} {c r C R : zz_S} (h : zL 0 8 c r C R) (hs : zS fr gl gn fi nx n c r) (h17 : zz_sg c 17 = 8) : zr (PR_move_f C) (MO_act_46 (nI fi) 8 fr (nI n) R) (zQ1 c r) := by
  have hs0 := hs
  obtain ⟨h3, h15, h7, h14, h8, h16, h18, h19, h5, hfr, hgl, hgn, hfi, hn⟩ := hs
  unfold PR_move_f MO_act_46
  simp (decide := true) only [zz_nm_e, zL_c17 h, h17, zL_c18 h, h18, zL_c3 h, h3, zL_c15 h, h15, zL_r7 h, h7, ↓reduceIte]
  exact zr_bd (zL_pop h) (fun x C1 y R1 q => zr_bd (zL_pop q.1) (fun x2 C2 y2 R2 q2 => zr_bd (zL_write q2.1 (by decide) (fun z => ⟨by rw [(q.2.2 (q2.2.2 z).1).2], by rw [(q2.2.2 z).2]⟩)) (fun _ C3 _ R3 q3 => zr_ret (zQ1_of hs0 q3.1 (by decide) (by decide)))))
theorem zo_17 {fr gl : Int32} {gn fi nx n : Nat} {c r C R : zz_S} (h : zL 0 8 c r C R) (hs : zS fr gl gn fi nx n c r) (h17 : zz_sg c 17 = 17) : zr (PR_arrange_f C) (MO_act_46 (nI fi) 17 fr (nI n) R) (zQ1 c r) := by
  have hs0 := hs
  obtain ⟨h3, h15, h7, h14, h8, h16, h18, h19, h5, hfr, hgl, hgn, hfi, hn⟩ := hs
  unfold PR_arrange_f MO_act_46
  simp (decide := true) only [zz_nm_e, zL_c17 h, h17, zL_c18 h, h18, zL_c3 h, h3, zL_c15 h, h15, zL_r7 h, h7, ↓reduceIte]
  exact zr_bd (zL_pop h) (fun x C1 y R1 q => zr_bd (zL_push q.1 (by decide) (fun z => by rw [(q.2.2 z).2])) (fun _ C2 _ R2 q2 => zr_bd (zL_push q2.1 (by decide) (fun z => by rw [(q.2.2 (q2.2 z)).2])) (fun _ C3 _ R3 q3 => zr_ret (zQ1_of hs0 q3.1 (by decide) (by decide)))))
theorem zo_18 {fr gl : Int32} {gn fi nx n : Nat} {c r C R : zz_S} (h : zL 0 8 c r C R) (hs : zS fr gl gn fi nx n c r) (h17 : zz_sg c 17 = 18) : zr (PR_arrange_f C) (MO_act_46 (nI fi) 18 fr (nI n) R) (zQ1 c r) := by
  have hs0 := hs
  obtain ⟨h3, h15, h7, h14, h8, h16, h18, h19, h5, hfr, hgl, hgn, hfi, hn⟩ := hs
  unfold PR_arrange_f MO_act_46
  simp (decide := true) only [zz_nm_e, zL_c17 h, h17, zL_c18 h, h18, zL_c3 h, h3, zL_c15 h, h15, zL_r7 h, h7, ↓reduceIte]
  exact zr_bd (zL_pop h) (fun x C1 y R1 q => zr_ret (zQ1_of hs0 q.1 (by decide) (by decide)))
theorem zo_29 {fr gl : Int32} {gn fi nx n : Nat} {c r C R : zz_S} (h : zL 0 8 c r C R) (hs : zS fr gl gn fi nx n c r) (h17 : zz_sg c 17 = 29) : zr (PR_transfer_f C) (MO_act_46 (nI fi) 29 fr (nI n) R) (zQ1 c r) := by
  have hs0 := hs
  obtain ⟨h3, h15, h7, h14, h8, h16, h18, h19, h5, hfr, hgl, hgn, hfi, hn⟩ := hs
  unfold PR_transfer_f MO_act_46
  simp (decide := true) only [zz_nm_e, zL_c17 h, h17, zL_c18 h, h18, zL_c3 h, h3, zL_c15 h, h15, zL_r7 h, h7, ↓reduceIte]
  have e7 : nI n &&& (7 : Int32) = nI (n % 8) := zi_7 n
  rw [e7]
  exact zr_bd (zL_take h (by decide) (Nat.mod_lt _ (by decide)) (Nat.mod_lt _ (by decide)) (fun _ => rfl)) (fun x C1 y R1 q => zr_bd (zL_push q.1 (by decide) (fun z => by rw [(q.2.1 z).2])) (fun _ C2 _ R2 q2 => zr_ret (zQ1_of hs0 q2.1 (by decide) (by decide))))
theorem zo_30 {fr gl : Int32} {gn fi nx n : Nat} {c r C R : zz_S} (h : zL 0 8 c r C R) (hs : zS fr gl gn fi nx n c r) (h17 : zz_sg c 17 = 30) : zr (PR_transfer_f C) (MO_act_46 (nI fi) 30 fr (nI n) R) (zQ1 c r) := by
  have hs0 := hs
  obtain ⟨h3, h15, h7, h14, h8, h16, h18, h19, h5, hfr, hgl, hgn, hfi, hn⟩ := hs
  unfold PR_transfer_f MO_act_46
  simp (decide := true) only [zz_nm_e, zL_c17 h, h17, zL_c18 h, h18, zL_c3 h, h3, zL_c15 h, h15, zL_r7 h, h7, ↓reduceIte]
  exact zr_bd (zL_pop h) (fun x C1 y R1 q => zr_bd (zL_give q.1 (by decide) (fun z => (q.2.2 z).2)) (fun _ C2 _ R2 q2 => zr_ret (zQ1_of hs0 q2.1 (by decide) (by decide))))
