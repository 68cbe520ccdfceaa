/-! the memory of both sides: words, notes, the places written, what stood there, how many, the fault -/
abbrev zM : Type := (Nat → Int32) × (Nat → Int32) × (Nat → Int32) × (Nat → Int32) × (Nat → Int32) × (Nat → Int32) × Nat × Nat
def zmW (m : zM) : Nat → Int32 := m.1
def zmN (m : zM) : Nat → Int32 := m.2.1
def zmP (m : zM) : Nat → Int32 := m.2.2.1
def zmB (m : zM) : Nat → Int32 := m.2.2.2.1
def zmA (m : zM) : Nat → Int32 := m.2.2.2.2.1
def zmG (m : zM) : Nat → Int32 := m.2.2.2.2.2.1
def zmk (m : zM) : Nat := m.2.2.2.2.2.2.1
def zmf (m : zM) : Nat := m.2.2.2.2.2.2.2
def zmsW (m : zM) (x : Nat → Int32) : zM := (x, m.2.1, m.2.2.1, m.2.2.2.1, m.2.2.2.2.1, m.2.2.2.2.2.1, m.2.2.2.2.2.2.1, m.2.2.2.2.2.2.2)
def zmsN (m : zM) (x : Nat → Int32) : zM := (m.1, x, m.2.2.1, m.2.2.2.1, m.2.2.2.2.1, m.2.2.2.2.2.1, m.2.2.2.2.2.2.1, m.2.2.2.2.2.2.2)
def zmsP (m : zM) (x : Nat → Int32) : zM := (m.1, m.2.1, x, m.2.2.2.1, m.2.2.2.2.1, m.2.2.2.2.2.1, m.2.2.2.2.2.2.1, m.2.2.2.2.2.2.2)
def zmsB (m : zM) (x : Nat → Int32) : zM := (m.1, m.2.1, m.2.2.1, x, m.2.2.2.2.1, m.2.2.2.2.2.1, m.2.2.2.2.2.2.1, m.2.2.2.2.2.2.2)
def zmsA (m : zM) (x : Nat → Int32) : zM := (m.1, m.2.1, m.2.2.1, m.2.2.2.1, x, m.2.2.2.2.2.1, m.2.2.2.2.2.2.1, m.2.2.2.2.2.2.2)
def zmsG (m : zM) (x : Nat → Int32) : zM := (m.1, m.2.1, m.2.2.1, m.2.2.2.1, m.2.2.2.2.1, x, m.2.2.2.2.2.2.1, m.2.2.2.2.2.2.2)
def zmsk (m : zM) (x : Nat) : zM := (m.1, m.2.1, m.2.2.1, m.2.2.2.1, m.2.2.2.2.1, m.2.2.2.2.2.1, x, m.2.2.2.2.2.2.2)
def zmsf (m : zM) (x : Nat) : zM := (m.1, m.2.1, m.2.2.1, m.2.2.2.1, m.2.2.2.2.1, m.2.2.2.2.2.1, m.2.2.2.2.2.2.1, x)
def zpC (c : zz_S) (m : zM) : zz_S := (fun j => bif Nat.beq j 0 then nI (zmk m) else bif Nat.beq j 1 then nI (zmf m) else c.1 j, fun a => bif Nat.beq a 0 then zmW m else bif Nat.beq a 3 then zmN m else bif Nat.beq a 4 then zmP m else bif Nat.beq a 5 then zmB m else bif Nat.beq a 1 then zmA m else bif Nat.beq a 2 then zmG m else c.2.1 a, c.2.2)
def zpM (r : zz_S) (m : zM) : zz_S := (fun j => bif Nat.beq j 1 then nI (zmk m) else bif Nat.beq j 2 then nI (zmf m) else r.1 j, fun a => bif Nat.beq a 3 then zmW m else bif Nat.beq a 2 then zmN m else bif Nat.beq a 14 then zmP m else bif Nat.beq a 15 then zmB m else bif Nat.beq a 1 then zmA m else bif Nat.beq a 4 then zmG m else r.2.1 a, r.2.2)
theorem zS_ext {a b : zz_S} (h1 : ∀ j, zz_sg a j = zz_sg b j) (h2 : ∀ x i, zz_ag a x i = zz_ag b x i) (h3 : ∀ j, zz_qg a j = zz_qg b j) (h4 : ∀ x i, zz_lg a x i = zz_lg b x i) : a = b := by
  obtain ⟨a1, a2, a3, a4⟩ := a
  obtain ⟨b1, b2, b3, b4⟩ := b
  rw [show a1 = b1 from funext h1, show a2 = b2 from funext (fun x => funext (h2 x)), show a3 = b3 from funext h3, show a4 = b4 from funext (fun x => funext (h4 x))]
theorem zb_t {x y : Nat} (h : Nat.beq x y = true) : x = y := Nat.eq_of_beq_eq_true h
theorem zb_f {x y : Nat} (h : x ≠ y) : Nat.beq x y = false := by
  cases e : Nat.beq x y with
  | false => rfl
  | true => exact absurd (zb_t e) h
theorem zz_bd_s {α β σ : Type} (a : α) (s : σ) (f : α → σ → Option (β × σ)) : zz_bd (some (a, s)) f = f a s := rfl
theorem zz_gd_t {β : Type} (k : Option β) : zz_gd true k = k := rfl
theorem zz_nm_e {α β : Type} (e : α) (f : α → β) : zz_nm e f = f e := rfl
theorem zz_oc_s {β : Type} (t : Nat) (n : β) (f : Nat → β) : zz_oc (some t) n f = f t := rfl
theorem zz_oc_n {β : Type} (n : β) (f : Nat → β) : zz_oc none n f = n := rfl

theorem zmW_W (m : zM) (x : Nat → Int32) : zmW (zmsW m x) = x := rfl
theorem zmW_N (m : zM) (x : Nat → Int32) : zmW (zmsN m x) = zmW m := rfl
theorem zmW_P (m : zM) (x : Nat → Int32) : zmW (zmsP m x) = zmW m := rfl
theorem zmW_B (m : zM) (x : Nat → Int32) : zmW (zmsB m x) = zmW m := rfl
theorem zmW_A (m : zM) (x : Nat → Int32) : zmW (zmsA m x) = zmW m := rfl
theorem zmW_G (m : zM) (x : Nat → Int32) : zmW (zmsG m x) = zmW m := rfl
theorem zmW_k (m : zM) (x : Nat) : zmW (zmsk m x) = zmW m := rfl
theorem zmW_f (m : zM) (x : Nat) : zmW (zmsf m x) = zmW m := rfl
theorem zmN_W (m : zM) (x : Nat → Int32) : zmN (zmsW m x) = zmN m := rfl
theorem zmN_N (m : zM) (x : Nat → Int32) : zmN (zmsN m x) = x := rfl
theorem zmN_P (m : zM) (x : Nat → Int32) : zmN (zmsP m x) = zmN m := rfl
theorem zmN_B (m : zM) (x : Nat → Int32) : zmN (zmsB m x) = zmN m := rfl
theorem zmN_A (m : zM) (x : Nat → Int32) : zmN (zmsA m x) = zmN m := rfl
theorem zmN_G (m : zM) (x : Nat → Int32) : zmN (zmsG m x) = zmN m := rfl
theorem zmN_k (m : zM) (x : Nat) : zmN (zmsk m x) = zmN m := rfl
theorem zmN_f (m : zM) (x : Nat) : zmN (zmsf m x) = zmN m := rfl
theorem zmP_W (m : zM) (x : Nat → Int32) : zmP (zmsW m x) = zmP m := rfl
theorem zmP_N (m : zM) (x : Nat → Int32) : zmP (zmsN m x) = zmP m := rfl
theorem zmP_P (m : zM) (x : Nat → Int32) : zmP (zmsP m x) = x := rfl
theorem zmP_B (m : zM) (x : Nat → Int32) : zmP (zmsB m x) = zmP m := rfl
theorem zmP_A (m : zM) (x : Nat → Int32) : zmP (zmsA m x) = zmP m := rfl
theorem zmP_G (m : zM) (x : Nat → Int32) : zmP (zmsG m x) = zmP m := rfl
theorem zmP_k (m : zM) (x : Nat) : zmP (zmsk m x) = zmP m := rfl
theorem zmP_f (m : zM) (x : Nat) : zmP (zmsf m x) = zmP m := rfl
theorem zmB_W (m : zM) (x : Nat → Int32) : zmB (zmsW m x) = zmB m := rfl
theorem zmB_N (m : zM) (x : Nat → Int32) : zmB (zmsN m x) = zmB m := rfl
theorem zmB_P (m : zM) (x : Nat → Int32) : zmB (zmsP m x) = zmB m := rfl
theorem zmB_B (m : zM) (x : Nat → Int32) : zmB (zmsB m x) = x := rfl
theorem zmB_A (m : zM) (x : Nat → Int32) : zmB (zmsA m x) = zmB m := rfl
theorem zmB_G (m : zM) (x : Nat → Int32) : zmB (zmsG m x) = zmB m := rfl
theorem zmB_k (m : zM) (x : Nat) : zmB (zmsk m x) = zmB m := rfl
theorem zmB_f (m : zM) (x : Nat) : zmB (zmsf m x) = zmB m := rfl
theorem zmA_W (m : zM) (x : Nat → Int32) : zmA (zmsW m x) = zmA m := rfl
theorem zmA_N (m : zM) (x : Nat → Int32) : zmA (zmsN m x) = zmA m := rfl
theorem zmA_P (m : zM) (x : Nat → Int32) : zmA (zmsP m x) = zmA m := rfl
theorem zmA_B (m : zM) (x : Nat → Int32) : zmA (zmsB m x) = zmA m := rfl
theorem zmA_A (m : zM) (x : Nat → Int32) : zmA (zmsA m x) = x := rfl
theorem zmA_G (m : zM) (x : Nat → Int32) : zmA (zmsG m x) = zmA m := rfl
theorem zmA_k (m : zM) (x : Nat) : zmA (zmsk m x) = zmA m := rfl
theorem zmA_f (m : zM) (x : Nat) : zmA (zmsf m x) = zmA m := rfl
theorem zmG_W (m : zM) (x : Nat → Int32) : zmG (zmsW m x) = zmG m := rfl
theorem zmG_N (m : zM) (x : Nat → Int32) : zmG (zmsN m x) = zmG m := rfl
theorem zmG_P (m : zM) (x : Nat → Int32) : zmG (zmsP m x) = zmG m := rfl
theorem zmG_B (m : zM) (x : Nat → Int32) : zmG (zmsB m x) = zmG m := rfl
theorem zmG_A (m : zM) (x : Nat → Int32) : zmG (zmsA m x) = zmG m := rfl
theorem zmG_G (m : zM) (x : Nat → Int32) : zmG (zmsG m x) = x := rfl
theorem zmG_k (m : zM) (x : Nat) : zmG (zmsk m x) = zmG m := rfl
theorem zmG_f (m : zM) (x : Nat) : zmG (zmsf m x) = zmG m := rfl
theorem zmk_W (m : zM) (x : Nat → Int32) : zmk (zmsW m x) = zmk m := rfl
theorem zmk_N (m : zM) (x : Nat → Int32) : zmk (zmsN m x) = zmk m := rfl
theorem zmk_P (m : zM) (x : Nat → Int32) : zmk (zmsP m x) = zmk m := rfl
theorem zmk_B (m : zM) (x : Nat → Int32) : zmk (zmsB m x) = zmk m := rfl
theorem zmk_A (m : zM) (x : Nat → Int32) : zmk (zmsA m x) = zmk m := rfl
theorem zmk_G (m : zM) (x : Nat → Int32) : zmk (zmsG m x) = zmk m := rfl
theorem zmk_k (m : zM) (x : Nat) : zmk (zmsk m x) = x := rfl
theorem zmk_f (m : zM) (x : Nat) : zmk (zmsf m x) = zmk m := rfl
theorem zmf_W (m : zM) (x : Nat → Int32) : zmf (zmsW m x) = zmf m := rfl
theorem zmf_N (m : zM) (x : Nat → Int32) : zmf (zmsN m x) = zmf m := rfl
theorem zmf_P (m : zM) (x : Nat → Int32) : zmf (zmsP m x) = zmf m := rfl
theorem zmf_B (m : zM) (x : Nat → Int32) : zmf (zmsB m x) = zmf m := rfl
theorem zmf_A (m : zM) (x : Nat → Int32) : zmf (zmsA m x) = zmf m := rfl
theorem zmf_G (m : zM) (x : Nat → Int32) : zmf (zmsG m x) = zmf m := rfl
theorem zmf_k (m : zM) (x : Nat) : zmf (zmsk m x) = zmf m := rfl
theorem zmf_f (m : zM) (x : Nat) : zmf (zmsf m x) = x := rfl
theorem zpC_sg0 (c : zz_S) (m : zM) : zz_sg (zpC c m) 0 = nI (zmk m) := rfl
theorem zpC_sg1 (c : zz_S) (m : zM) : zz_sg (zpC c m) 1 = nI (zmf m) := rfl
theorem zpC_sg2 (c : zz_S) (m : zM) : zz_sg (zpC c m) 2 = zz_sg c 2 := rfl
theorem zpC_sg3 (c : zz_S) (m : zM) : zz_sg (zpC c m) 3 = zz_sg c 3 := rfl
theorem zpC_sg4 (c : zz_S) (m : zM) : zz_sg (zpC c m) 4 = zz_sg c 4 := rfl
theorem zpC_sg5 (c : zz_S) (m : zM) : zz_sg (zpC c m) 5 = zz_sg c 5 := rfl
theorem zpC_sg6 (c : zz_S) (m : zM) : zz_sg (zpC c m) 6 = zz_sg c 6 := rfl
theorem zpC_sg7 (c : zz_S) (m : zM) : zz_sg (zpC c m) 7 = zz_sg c 7 := rfl
theorem zpC_sg8 (c : zz_S) (m : zM) : zz_sg (zpC c m) 8 = zz_sg c 8 := rfl
theorem zpC_sg9 (c : zz_S) (m : zM) : zz_sg (zpC c m) 9 = zz_sg c 9 := rfl
theorem zpC_sg10 (c : zz_S) (m : zM) : zz_sg (zpC c m) 10 = zz_sg c 10 := rfl
theorem zpC_sg11 (c : zz_S) (m : zM) : zz_sg (zpC c m) 11 = zz_sg c 11 := rfl
theorem zpC_sg12 (c : zz_S) (m : zM) : zz_sg (zpC c m) 12 = zz_sg c 12 := rfl
theorem zpC_sg13 (c : zz_S) (m : zM) : zz_sg (zpC c m) 13 = zz_sg c 13 := rfl
theorem zpC_sg14 (c : zz_S) (m : zM) : zz_sg (zpC c m) 14 = zz_sg c 14 := rfl
theorem zpC_sg15 (c : zz_S) (m : zM) : zz_sg (zpC c m) 15 = zz_sg c 15 := rfl
theorem zpC_sg16 (c : zz_S) (m : zM) : zz_sg (zpC c m) 16 = zz_sg c 16 := rfl
theorem zpC_sg17 (c : zz_S) (m : zM) : zz_sg (zpC c m) 17 = zz_sg c 17 := rfl
theorem zpC_sg18 (c : zz_S) (m : zM) : zz_sg (zpC c m) 18 = zz_sg c 18 := rfl
theorem zpC_sg19 (c : zz_S) (m : zM) : zz_sg (zpC c m) 19 = zz_sg c 19 := rfl
theorem zpC_ag0 (c : zz_S) (m : zM) (i : Nat) : zz_ag (zpC c m) 0 i = zmW m i := rfl
theorem zpC_ag1 (c : zz_S) (m : zM) (i : Nat) : zz_ag (zpC c m) 1 i = zmA m i := rfl
theorem zpC_ag2 (c : zz_S) (m : zM) (i : Nat) : zz_ag (zpC c m) 2 i = zmG m i := rfl
theorem zpC_ag3 (c : zz_S) (m : zM) (i : Nat) : zz_ag (zpC c m) 3 i = zmN m i := rfl
theorem zpC_ag4 (c : zz_S) (m : zM) (i : Nat) : zz_ag (zpC c m) 4 i = zmP m i := rfl
theorem zpC_ag5 (c : zz_S) (m : zM) (i : Nat) : zz_ag (zpC c m) 5 i = zmB m i := rfl
theorem zpC_ag6 (c : zz_S) (m : zM) (i : Nat) : zz_ag (zpC c m) 6 i = zz_ag c 6 i := rfl
theorem zpC_ag7 (c : zz_S) (m : zM) (i : Nat) : zz_ag (zpC c m) 7 i = zz_ag c 7 i := rfl
theorem zpC_ag8 (c : zz_S) (m : zM) (i : Nat) : zz_ag (zpC c m) 8 i = zz_ag c 8 i := rfl
theorem zpC_ag9 (c : zz_S) (m : zM) (i : Nat) : zz_ag (zpC c m) 9 i = zz_ag c 9 i := rfl
theorem zpC_ag10 (c : zz_S) (m : zM) (i : Nat) : zz_ag (zpC c m) 10 i = zz_ag c 10 i := rfl
theorem zpC_ag11 (c : zz_S) (m : zM) (i : Nat) : zz_ag (zpC c m) 11 i = zz_ag c 11 i := rfl
theorem zpC_ag12 (c : zz_S) (m : zM) (i : Nat) : zz_ag (zpC c m) 12 i = zz_ag c 12 i := rfl
theorem zpC_ag13 (c : zz_S) (m : zM) (i : Nat) : zz_ag (zpC c m) 13 i = zz_ag c 13 i := rfl
theorem zpC_ag14 (c : zz_S) (m : zM) (i : Nat) : zz_ag (zpC c m) 14 i = zz_ag c 14 i := rfl
theorem zpC_qg (c : zz_S) (m : zM) (j : Nat) : zz_qg (zpC c m) j = zz_qg c j := rfl
theorem zpC_lg (c : zz_S) (m : zM) (a i : Nat) : zz_lg (zpC c m) a i = zz_lg c a i := rfl
theorem zpC_qp (c : zz_S) (m : zM) (j : Nat) (v : Option Nat) : zz_qp (zpC c m) j v = zpC (zz_qp c j v) m := rfl
theorem zpC_lp (c : zz_S) (m : zM) (a i : Nat) (v : Int64) : zz_lp (zpC c m) a i v = zpC (zz_lp c a i v) m := rfl
theorem zpC_spG (c : zz_S) (m : zM) (k : Nat) (v : Int32) (h0 : Nat.beq 0 k = false) (h1 : Nat.beq 1 k = false) : zz_sp (zpC c m) k v = zpC (zz_sp c k v) m := by
  refine zS_ext (fun j => ?_) (fun _ _ => rfl) (fun _ => rfl) (fun _ _ => rfl)
  show (bif Nat.beq j k then v else zz_sg (zpC c m) j) = zz_sg (zpC (zz_sp c k v) m) j
  show (bif Nat.beq j k then v else (bif Nat.beq j 0 then nI (zmk m) else bif Nat.beq j 1 then nI (zmf m) else c.1 j)) = (bif Nat.beq j 0 then nI (zmk m) else bif Nat.beq j 1 then nI (zmf m) else (bif Nat.beq j k then v else c.1 j))
  cases e0 : Nat.beq j 0 with
  | true => rw [zb_t e0, h0]; rfl
  | false =>
    cases e1 : Nat.beq j 1 with
    | true => rw [zb_t e1, h1]; rfl
    | false => rfl
theorem zpC_sp0 (c : zz_S) (m : zM) (v : Nat) : zz_sp (zpC c m) 0 (nI v) = zpC c (zmsk m v) := by
  refine zS_ext (fun i => ?_) (fun _ _ => rfl) (fun _ => rfl) (fun _ _ => rfl)
  show (bif Nat.beq i 0 then nI v else zz_sg (zpC c m) i) = _
  cases e : Nat.beq i 0 with
  | true => rw [zb_t e]; rfl
  | false =>
    show (bif Nat.beq i 0 then nI (zmk m) else bif Nat.beq i 1 then nI (zmf m) else c.1 i) = (bif Nat.beq i 0 then nI (zmk (zmsk m v)) else bif Nat.beq i 1 then nI (zmf (zmsk m v)) else c.1 i)
    rw [e]; rfl
theorem zpC_sp1 (c : zz_S) (m : zM) (v : Nat) : zz_sp (zpC c m) 1 (nI v) = zpC c (zmsf m v) := by
  refine zS_ext (fun i => ?_) (fun _ _ => rfl) (fun _ => rfl) (fun _ _ => rfl)
  show (bif Nat.beq i 1 then nI v else zz_sg (zpC c m) i) = _
  cases e : Nat.beq i 1 with
  | true => rw [zb_t e]; rfl
  | false =>
    show (bif Nat.beq i 0 then nI (zmk m) else bif Nat.beq i 1 then nI (zmf m) else c.1 i) = (bif Nat.beq i 0 then nI (zmk (zmsf m v)) else bif Nat.beq i 1 then nI (zmf (zmsf m v)) else c.1 i)
    rw [e]; rfl
theorem zpC_sp2 (c : zz_S) (m : zM) (v : Int32) : zz_sp (zpC c m) 2 v = zpC (zz_sp c 2 v) m := zpC_spG c m 2 v rfl rfl
theorem zpC_sp3 (c : zz_S) (m : zM) (v : Int32) : zz_sp (zpC c m) 3 v = zpC (zz_sp c 3 v) m := zpC_spG c m 3 v rfl rfl
theorem zpC_sp4 (c : zz_S) (m : zM) (v : Int32) : zz_sp (zpC c m) 4 v = zpC (zz_sp c 4 v) m := zpC_spG c m 4 v rfl rfl
theorem zpC_sp5 (c : zz_S) (m : zM) (v : Int32) : zz_sp (zpC c m) 5 v = zpC (zz_sp c 5 v) m := zpC_spG c m 5 v rfl rfl
theorem zpC_sp6 (c : zz_S) (m : zM) (v : Int32) : zz_sp (zpC c m) 6 v = zpC (zz_sp c 6 v) m := zpC_spG c m 6 v rfl rfl
theorem zpC_sp7 (c : zz_S) (m : zM) (v : Int32) : zz_sp (zpC c m) 7 v = zpC (zz_sp c 7 v) m := zpC_spG c m 7 v rfl rfl
theorem zpC_sp8 (c : zz_S) (m : zM) (v : Int32) : zz_sp (zpC c m) 8 v = zpC (zz_sp c 8 v) m := zpC_spG c m 8 v rfl rfl
theorem zpC_sp9 (c : zz_S) (m : zM) (v : Int32) : zz_sp (zpC c m) 9 v = zpC (zz_sp c 9 v) m := zpC_spG c m 9 v rfl rfl
theorem zpC_sp10 (c : zz_S) (m : zM) (v : Int32) : zz_sp (zpC c m) 10 v = zpC (zz_sp c 10 v) m := zpC_spG c m 10 v rfl rfl
theorem zpC_sp11 (c : zz_S) (m : zM) (v : Int32) : zz_sp (zpC c m) 11 v = zpC (zz_sp c 11 v) m := zpC_spG c m 11 v rfl rfl
theorem zpC_sp12 (c : zz_S) (m : zM) (v : Int32) : zz_sp (zpC c m) 12 v = zpC (zz_sp c 12 v) m := zpC_spG c m 12 v rfl rfl
theorem zpC_sp13 (c : zz_S) (m : zM) (v : Int32) : zz_sp (zpC c m) 13 v = zpC (zz_sp c 13 v) m := zpC_spG c m 13 v rfl rfl
theorem zpC_sp14 (c : zz_S) (m : zM) (v : Int32) : zz_sp (zpC c m) 14 v = zpC (zz_sp c 14 v) m := zpC_spG c m 14 v rfl rfl
theorem zpC_sp15 (c : zz_S) (m : zM) (v : Int32) : zz_sp (zpC c m) 15 v = zpC (zz_sp c 15 v) m := zpC_spG c m 15 v rfl rfl
theorem zpC_sp16 (c : zz_S) (m : zM) (v : Int32) : zz_sp (zpC c m) 16 v = zpC (zz_sp c 16 v) m := zpC_spG c m 16 v rfl rfl
theorem zpC_sp17 (c : zz_S) (m : zM) (v : Int32) : zz_sp (zpC c m) 17 v = zpC (zz_sp c 17 v) m := zpC_spG c m 17 v rfl rfl
theorem zpC_sp18 (c : zz_S) (m : zM) (v : Int32) : zz_sp (zpC c m) 18 v = zpC (zz_sp c 18 v) m := zpC_spG c m 18 v rfl rfl
theorem zpC_sp19 (c : zz_S) (m : zM) (v : Int32) : zz_sp (zpC c m) 19 v = zpC (zz_sp c 19 v) m := zpC_spG c m 19 v rfl rfl
theorem zpC_apG (c : zz_S) (m : zM) (x i : Nat) (v : Int32) (h0 : Nat.beq 0 x = false) (h3 : Nat.beq 3 x = false) (h4 : Nat.beq 4 x = false) (h5 : Nat.beq 5 x = false) (h1 : Nat.beq 1 x = false) (h2 : Nat.beq 2 x = false) : zz_ap (zpC c m) x i v = zpC (zz_ap c x i v) m := by
  have hb : ∀ a, Nat.beq a x = false → Nat.beq x a = false := fun a h => zb_f (fun e => by rw [e, Nat.beq_refl] at h; cases h)
  have hx : (zpC c m).2.1 x = c.2.1 x := by
    show (bif Nat.beq x 0 then zmW m else bif Nat.beq x 3 then zmN m else bif Nat.beq x 4 then zmP m else bif Nat.beq x 5 then zmB m else bif Nat.beq x 1 then zmA m else bif Nat.beq x 2 then zmG m else c.2.1 x) = c.2.1 x
    rw [hb 0 h0, hb 3 h3, hb 4 h4, hb 5 h5, hb 1 h1, hb 2 h2]; rfl
  refine zS_ext (fun _ => rfl) (fun y j => congrFun ?_ j) (fun _ => rfl) (fun _ _ => rfl)
  show (bif Nat.beq y x then upd ((zpC c m).2.1 x) i v else (zpC c m).2.1 y) = _
  rw [hx]
  show (bif Nat.beq y x then upd (c.2.1 x) i v else (bif Nat.beq y 0 then zmW m else bif Nat.beq y 3 then zmN m else bif Nat.beq y 4 then zmP m else bif Nat.beq y 5 then zmB m else bif Nat.beq y 1 then zmA m else bif Nat.beq y 2 then zmG m else c.2.1 y)) = (bif Nat.beq y 0 then zmW m else bif Nat.beq y 3 then zmN m else bif Nat.beq y 4 then zmP m else bif Nat.beq y 5 then zmB m else bif Nat.beq y 1 then zmA m else bif Nat.beq y 2 then zmG m else (bif Nat.beq y x then upd (c.2.1 x) i v else c.2.1 y))
  cases e : Nat.beq y x with
  | false => rfl
  | true => rw [zb_t e, hb 0 h0, hb 3 h3, hb 4 h4, hb 5 h5, hb 1 h1, hb 2 h2]; rfl
theorem zpC_ap0 (c : zz_S) (m : zM) (i : Nat) (v : Int32) : zz_ap (zpC c m) 0 i v = zpC c (zmsW m (upd (zmW m) i v)) := by
  refine zS_ext (fun _ => rfl) (fun y j => congrFun ?_ j) (fun _ => rfl) (fun _ _ => rfl)
  show (bif Nat.beq y 0 then upd (zmW m) i v else (bif Nat.beq y 0 then zmW m else bif Nat.beq y 3 then zmN m else bif Nat.beq y 4 then zmP m else bif Nat.beq y 5 then zmB m else bif Nat.beq y 1 then zmA m else bif Nat.beq y 2 then zmG m else c.2.1 y)) = (bif Nat.beq y 0 then zmW (zmsW m (upd (zmW m) i v)) else bif Nat.beq y 3 then zmN (zmsW m (upd (zmW m) i v)) else bif Nat.beq y 4 then zmP (zmsW m (upd (zmW m) i v)) else bif Nat.beq y 5 then zmB (zmsW m (upd (zmW m) i v)) else bif Nat.beq y 1 then zmA (zmsW m (upd (zmW m) i v)) else bif Nat.beq y 2 then zmG (zmsW m (upd (zmW m) i v)) else c.2.1 y)
  cases e : Nat.beq y 0 with
  | true => rw [zb_t e]; rfl
  | false => rfl
theorem zpC_ap1 (c : zz_S) (m : zM) (i : Nat) (v : Int32) : zz_ap (zpC c m) 1 i v = zpC c (zmsA m (upd (zmA m) i v)) := by
  refine zS_ext (fun _ => rfl) (fun y j => congrFun ?_ j) (fun _ => rfl) (fun _ _ => rfl)
  show (bif Nat.beq y 1 then upd (zmA m) i v else (bif Nat.beq y 0 then zmW m else bif Nat.beq y 3 then zmN m else bif Nat.beq y 4 then zmP m else bif Nat.beq y 5 then zmB m else bif Nat.beq y 1 then zmA m else bif Nat.beq y 2 then zmG m else c.2.1 y)) = (bif Nat.beq y 0 then zmW (zmsA m (upd (zmA m) i v)) else bif Nat.beq y 3 then zmN (zmsA m (upd (zmA m) i v)) else bif Nat.beq y 4 then zmP (zmsA m (upd (zmA m) i v)) else bif Nat.beq y 5 then zmB (zmsA m (upd (zmA m) i v)) else bif Nat.beq y 1 then zmA (zmsA m (upd (zmA m) i v)) else bif Nat.beq y 2 then zmG (zmsA m (upd (zmA m) i v)) else c.2.1 y)
  cases e : Nat.beq y 1 with
  | true => rw [zb_t e]; rfl
  | false => rfl
theorem zpC_ap2 (c : zz_S) (m : zM) (i : Nat) (v : Int32) : zz_ap (zpC c m) 2 i v = zpC c (zmsG m (upd (zmG m) i v)) := by
  refine zS_ext (fun _ => rfl) (fun y j => congrFun ?_ j) (fun _ => rfl) (fun _ _ => rfl)
  show (bif Nat.beq y 2 then upd (zmG m) i v else (bif Nat.beq y 0 then zmW m else bif Nat.beq y 3 then zmN m else bif Nat.beq y 4 then zmP m else bif Nat.beq y 5 then zmB m else bif Nat.beq y 1 then zmA m else bif Nat.beq y 2 then zmG m else c.2.1 y)) = (bif Nat.beq y 0 then zmW (zmsG m (upd (zmG m) i v)) else bif Nat.beq y 3 then zmN (zmsG m (upd (zmG m) i v)) else bif Nat.beq y 4 then zmP (zmsG m (upd (zmG m) i v)) else bif Nat.beq y 5 then zmB (zmsG m (upd (zmG m) i v)) else bif Nat.beq y 1 then zmA (zmsG m (upd (zmG m) i v)) else bif Nat.beq y 2 then zmG (zmsG m (upd (zmG m) i v)) else c.2.1 y)
  cases e : Nat.beq y 2 with
  | true => rw [zb_t e]; rfl
  | false => rfl
theorem zpC_ap3 (c : zz_S) (m : zM) (i : Nat) (v : Int32) : zz_ap (zpC c m) 3 i v = zpC c (zmsN m (upd (zmN m) i v)) := by
  refine zS_ext (fun _ => rfl) (fun y j => congrFun ?_ j) (fun _ => rfl) (fun _ _ => rfl)
  show (bif Nat.beq y 3 then upd (zmN m) i v else (bif Nat.beq y 0 then zmW m else bif Nat.beq y 3 then zmN m else bif Nat.beq y 4 then zmP m else bif Nat.beq y 5 then zmB m else bif Nat.beq y 1 then zmA m else bif Nat.beq y 2 then zmG m else c.2.1 y)) = (bif Nat.beq y 0 then zmW (zmsN m (upd (zmN m) i v)) else bif Nat.beq y 3 then zmN (zmsN m (upd (zmN m) i v)) else bif Nat.beq y 4 then zmP (zmsN m (upd (zmN m) i v)) else bif Nat.beq y 5 then zmB (zmsN m (upd (zmN m) i v)) else bif Nat.beq y 1 then zmA (zmsN m (upd (zmN m) i v)) else bif Nat.beq y 2 then zmG (zmsN m (upd (zmN m) i v)) else c.2.1 y)
  cases e : Nat.beq y 3 with
  | true => rw [zb_t e]; rfl
  | false => rfl
theorem zpC_ap4 (c : zz_S) (m : zM) (i : Nat) (v : Int32) : zz_ap (zpC c m) 4 i v = zpC c (zmsP m (upd (zmP m) i v)) := by
  refine zS_ext (fun _ => rfl) (fun y j => congrFun ?_ j) (fun _ => rfl) (fun _ _ => rfl)
  show (bif Nat.beq y 4 then upd (zmP m) i v else (bif Nat.beq y 0 then zmW m else bif Nat.beq y 3 then zmN m else bif Nat.beq y 4 then zmP m else bif Nat.beq y 5 then zmB m else bif Nat.beq y 1 then zmA m else bif Nat.beq y 2 then zmG m else c.2.1 y)) = (bif Nat.beq y 0 then zmW (zmsP m (upd (zmP m) i v)) else bif Nat.beq y 3 then zmN (zmsP m (upd (zmP m) i v)) else bif Nat.beq y 4 then zmP (zmsP m (upd (zmP m) i v)) else bif Nat.beq y 5 then zmB (zmsP m (upd (zmP m) i v)) else bif Nat.beq y 1 then zmA (zmsP m (upd (zmP m) i v)) else bif Nat.beq y 2 then zmG (zmsP m (upd (zmP m) i v)) else c.2.1 y)
  cases e : Nat.beq y 4 with
  | true => rw [zb_t e]; rfl
  | false => rfl
theorem zpC_ap5 (c : zz_S) (m : zM) (i : Nat) (v : Int32) : zz_ap (zpC c m) 5 i v = zpC c (zmsB m (upd (zmB m) i v)) := by
  refine zS_ext (fun _ => rfl) (fun y j => congrFun ?_ j) (fun _ => rfl) (fun _ _ => rfl)
  show (bif Nat.beq y 5 then upd (zmB m) i v else (bif Nat.beq y 0 then zmW m else bif Nat.beq y 3 then zmN m else bif Nat.beq y 4 then zmP m else bif Nat.beq y 5 then zmB m else bif Nat.beq y 1 then zmA m else bif Nat.beq y 2 then zmG m else c.2.1 y)) = (bif Nat.beq y 0 then zmW (zmsB m (upd (zmB m) i v)) else bif Nat.beq y 3 then zmN (zmsB m (upd (zmB m) i v)) else bif Nat.beq y 4 then zmP (zmsB m (upd (zmB m) i v)) else bif Nat.beq y 5 then zmB (zmsB m (upd (zmB m) i v)) else bif Nat.beq y 1 then zmA (zmsB m (upd (zmB m) i v)) else bif Nat.beq y 2 then zmG (zmsB m (upd (zmB m) i v)) else c.2.1 y)
  cases e : Nat.beq y 5 with
  | true => rw [zb_t e]; rfl
  | false => rfl
theorem zpC_ap6 (c : zz_S) (m : zM) (i : Nat) (v : Int32) : zz_ap (zpC c m) 6 i v = zpC (zz_ap c 6 i v) m := zpC_apG c m 6 i v rfl rfl rfl rfl rfl rfl
theorem zpC_ap7 (c : zz_S) (m : zM) (i : Nat) (v : Int32) : zz_ap (zpC c m) 7 i v = zpC (zz_ap c 7 i v) m := zpC_apG c m 7 i v rfl rfl rfl rfl rfl rfl
theorem zpC_ap8 (c : zz_S) (m : zM) (i : Nat) (v : Int32) : zz_ap (zpC c m) 8 i v = zpC (zz_ap c 8 i v) m := zpC_apG c m 8 i v rfl rfl rfl rfl rfl rfl
theorem zpC_ap9 (c : zz_S) (m : zM) (i : Nat) (v : Int32) : zz_ap (zpC c m) 9 i v = zpC (zz_ap c 9 i v) m := zpC_apG c m 9 i v rfl rfl rfl rfl rfl rfl
theorem zpC_ap10 (c : zz_S) (m : zM) (i : Nat) (v : Int32) : zz_ap (zpC c m) 10 i v = zpC (zz_ap c 10 i v) m := zpC_apG c m 10 i v rfl rfl rfl rfl rfl rfl
theorem zpC_ap11 (c : zz_S) (m : zM) (i : Nat) (v : Int32) : zz_ap (zpC c m) 11 i v = zpC (zz_ap c 11 i v) m := zpC_apG c m 11 i v rfl rfl rfl rfl rfl rfl
theorem zpC_ap12 (c : zz_S) (m : zM) (i : Nat) (v : Int32) : zz_ap (zpC c m) 12 i v = zpC (zz_ap c 12 i v) m := zpC_apG c m 12 i v rfl rfl rfl rfl rfl rfl
theorem zpC_ap13 (c : zz_S) (m : zM) (i : Nat) (v : Int32) : zz_ap (zpC c m) 13 i v = zpC (zz_ap c 13 i v) m := zpC_apG c m 13 i v rfl rfl rfl rfl rfl rfl
theorem zpC_ap14 (c : zz_S) (m : zM) (i : Nat) (v : Int32) : zz_ap (zpC c m) 14 i v = zpC (zz_ap c 14 i v) m := zpC_apG c m 14 i v rfl rfl rfl rfl rfl rfl
theorem zpM_sg0 (c : zz_S) (m : zM) : zz_sg (zpM c m) 0 = zz_sg c 0 := rfl
theorem zpM_sg1 (c : zz_S) (m : zM) : zz_sg (zpM c m) 1 = nI (zmk m) := rfl
theorem zpM_sg2 (c : zz_S) (m : zM) : zz_sg (zpM c m) 2 = nI (zmf m) := rfl
theorem zpM_sg3 (c : zz_S) (m : zM) : zz_sg (zpM c m) 3 = zz_sg c 3 := rfl
theorem zpM_sg4 (c : zz_S) (m : zM) : zz_sg (zpM c m) 4 = zz_sg c 4 := rfl
theorem zpM_sg5 (c : zz_S) (m : zM) : zz_sg (zpM c m) 5 = zz_sg c 5 := rfl
theorem zpM_sg6 (c : zz_S) (m : zM) : zz_sg (zpM c m) 6 = zz_sg c 6 := rfl
theorem zpM_sg7 (c : zz_S) (m : zM) : zz_sg (zpM c m) 7 = zz_sg c 7 := rfl
theorem zpM_sg8 (c : zz_S) (m : zM) : zz_sg (zpM c m) 8 = zz_sg c 8 := rfl
theorem zpM_sg9 (c : zz_S) (m : zM) : zz_sg (zpM c m) 9 = zz_sg c 9 := rfl
theorem zpM_sg10 (c : zz_S) (m : zM) : zz_sg (zpM c m) 10 = zz_sg c 10 := rfl
theorem zpM_sg11 (c : zz_S) (m : zM) : zz_sg (zpM c m) 11 = zz_sg c 11 := rfl
theorem zpM_sg12 (c : zz_S) (m : zM) : zz_sg (zpM c m) 12 = zz_sg c 12 := rfl
theorem zpM_sg13 (c : zz_S) (m : zM) : zz_sg (zpM c m) 13 = zz_sg c 13 := rfl
theorem zpM_ag0 (c : zz_S) (m : zM) (i : Nat) : zz_ag (zpM c m) 0 i = zz_ag c 0 i := rfl
theorem zpM_ag1 (c : zz_S) (m : zM) (i : Nat) : zz_ag (zpM c m) 1 i = zmA m i := rfl
theorem zpM_ag2 (c : zz_S) (m : zM) (i : Nat) : zz_ag (zpM c m) 2 i = zmN m i := rfl
theorem zpM_ag3 (c : zz_S) (m : zM) (i : Nat) : zz_ag (zpM c m) 3 i = zmW m i := rfl
theorem zpM_ag4 (c : zz_S) (m : zM) (i : Nat) : zz_ag (zpM c m) 4 i = zmG m i := rfl
theorem zpM_ag5 (c : zz_S) (m : zM) (i : Nat) : zz_ag (zpM c m) 5 i = zz_ag c 5 i := rfl
theorem zpM_ag6 (c : zz_S) (m : zM) (i : Nat) : zz_ag (zpM c m) 6 i = zz_ag c 6 i := rfl
theorem zpM_ag7 (c : zz_S) (m : zM) (i : Nat) : zz_ag (zpM c m) 7 i = zz_ag c 7 i := rfl
theorem zpM_ag8 (c : zz_S) (m : zM) (i : Nat) : zz_ag (zpM c m) 8 i = zz_ag c 8 i := rfl
theorem zpM_ag9 (c : zz_S) (m : zM) (i : Nat) : zz_ag (zpM c m) 9 i = zz_ag c 9 i := rfl
theorem zpM_ag10 (c : zz_S) (m : zM) (i : Nat) : zz_ag (zpM c m) 10 i = zz_ag c 10 i := rfl
theorem zpM_ag11 (c : zz_S) (m : zM) (i : Nat) : zz_ag (zpM c m) 11 i = zz_ag c 11 i := rfl
theorem zpM_ag12 (c : zz_S) (m : zM) (i : Nat) : zz_ag (zpM c m) 12 i = zz_ag c 12 i := rfl
theorem zpM_ag13 (c : zz_S) (m : zM) (i : Nat) : zz_ag (zpM c m) 13 i = zz_ag c 13 i := rfl
theorem zpM_ag14 (c : zz_S) (m : zM) (i : Nat) : zz_ag (zpM c m) 14 i = zmP m i := rfl
theorem zpM_ag15 (c : zz_S) (m : zM) (i : Nat) : zz_ag (zpM c m) 15 i = zmB m i := rfl
theorem zpM_ag16 (c : zz_S) (m : zM) (i : Nat) : zz_ag (zpM c m) 16 i = zz_ag c 16 i := rfl
theorem zpM_ag17 (c : zz_S) (m : zM) (i : Nat) : zz_ag (zpM c m) 17 i = zz_ag c 17 i := rfl
theorem zpM_qg (c : zz_S) (m : zM) (j : Nat) : zz_qg (zpM c m) j = zz_qg c j := rfl
theorem zpM_lg (c : zz_S) (m : zM) (a i : Nat) : zz_lg (zpM c m) a i = zz_lg c a i := rfl
theorem zpM_qp (c : zz_S) (m : zM) (j : Nat) (v : Option Nat) : zz_qp (zpM c m) j v = zpM (zz_qp c j v) m := rfl
theorem zpM_lp (c : zz_S) (m : zM) (a i : Nat) (v : Int64) : zz_lp (zpM c m) a i v = zpM (zz_lp c a i v) m := rfl
theorem zpM_spG (c : zz_S) (m : zM) (k : Nat) (v : Int32) (h1 : Nat.beq 1 k = false) (h2 : Nat.beq 2 k = false) : zz_sp (zpM c m) k v = zpM (zz_sp c k v) m := by
  refine zS_ext (fun j => ?_) (fun _ _ => rfl) (fun _ => rfl) (fun _ _ => rfl)
  show (bif Nat.beq j k then v else zz_sg (zpM c m) j) = zz_sg (zpM (zz_sp c k v) m) j
  show (bif Nat.beq j k then v else (bif Nat.beq j 1 then nI (zmk m) else bif Nat.beq j 2 then nI (zmf m) else c.1 j)) = (bif Nat.beq j 1 then nI (zmk m) else bif Nat.beq j 2 then nI (zmf m) else (bif Nat.beq j k then v else c.1 j))
  cases e0 : Nat.beq j 1 with
  | true => rw [zb_t e0, h1]; rfl
  | false =>
    cases e1 : Nat.beq j 2 with
    | true => rw [zb_t e1, h2]; rfl
    | false => rfl
theorem zpM_sp0 (c : zz_S) (m : zM) (v : Int32) : zz_sp (zpM c m) 0 v = zpM (zz_sp c 0 v) m := zpM_spG c m 0 v rfl rfl
theorem zpM_sp1 (c : zz_S) (m : zM) (v : Nat) : zz_sp (zpM c m) 1 (nI v) = zpM c (zmsk m v) := by
  refine zS_ext (fun i => ?_) (fun _ _ => rfl) (fun _ => rfl) (fun _ _ => rfl)
  show (bif Nat.beq i 1 then nI v else zz_sg (zpM c m) i) = _
  cases e : Nat.beq i 1 with
  | true => rw [zb_t e]; rfl
  | false =>
    show (bif Nat.beq i 1 then nI (zmk m) else bif Nat.beq i 2 then nI (zmf m) else c.1 i) = (bif Nat.beq i 1 then nI (zmk (zmsk m v)) else bif Nat.beq i 2 then nI (zmf (zmsk m v)) else c.1 i)
    rw [e]; rfl
theorem zpM_sp2 (c : zz_S) (m : zM) (v : Nat) : zz_sp (zpM c m) 2 (nI v) = zpM c (zmsf m v) := by
  refine zS_ext (fun i => ?_) (fun _ _ => rfl) (fun _ => rfl) (fun _ _ => rfl)
  show (bif Nat.beq i 2 then nI v else zz_sg (zpM c m) i) = _
  cases e : Nat.beq i 2 with
  | true => rw [zb_t e]; rfl
  | false =>
    show (bif Nat.beq i 1 then nI (zmk m) else bif Nat.beq i 2 then nI (zmf m) else c.1 i) = (bif Nat.beq i 1 then nI (zmk (zmsf m v)) else bif Nat.beq i 2 then nI (zmf (zmsf m v)) else c.1 i)
    rw [e]; rfl
theorem zpM_sp3 (c : zz_S) (m : zM) (v : Int32) : zz_sp (zpM c m) 3 v = zpM (zz_sp c 3 v) m := zpM_spG c m 3 v rfl rfl
theorem zpM_sp4 (c : zz_S) (m : zM) (v : Int32) : zz_sp (zpM c m) 4 v = zpM (zz_sp c 4 v) m := zpM_spG c m 4 v rfl rfl
theorem zpM_sp5 (c : zz_S) (m : zM) (v : Int32) : zz_sp (zpM c m) 5 v = zpM (zz_sp c 5 v) m := zpM_spG c m 5 v rfl rfl
theorem zpM_sp6 (c : zz_S) (m : zM) (v : Int32) : zz_sp (zpM c m) 6 v = zpM (zz_sp c 6 v) m := zpM_spG c m 6 v rfl rfl
theorem zpM_sp7 (c : zz_S) (m : zM) (v : Int32) : zz_sp (zpM c m) 7 v = zpM (zz_sp c 7 v) m := zpM_spG c m 7 v rfl rfl
theorem zpM_sp8 (c : zz_S) (m : zM) (v : Int32) : zz_sp (zpM c m) 8 v = zpM (zz_sp c 8 v) m := zpM_spG c m 8 v rfl rfl
theorem zpM_sp9 (c : zz_S) (m : zM) (v : Int32) : zz_sp (zpM c m) 9 v = zpM (zz_sp c 9 v) m := zpM_spG c m 9 v rfl rfl
theorem zpM_sp10 (c : zz_S) (m : zM) (v : Int32) : zz_sp (zpM c m) 10 v = zpM (zz_sp c 10 v) m := zpM_spG c m 10 v rfl rfl
theorem zpM_sp11 (c : zz_S) (m : zM) (v : Int32) : zz_sp (zpM c m) 11 v = zpM (zz_sp c 11 v) m := zpM_spG c m 11 v rfl rfl
theorem zpM_sp12 (c : zz_S) (m : zM) (v : Int32) : zz_sp (zpM c m) 12 v = zpM (zz_sp c 12 v) m := zpM_spG c m 12 v rfl rfl
theorem zpM_sp13 (c : zz_S) (m : zM) (v : Int32) : zz_sp (zpM c m) 13 v = zpM (zz_sp c 13 v) m := zpM_spG c m 13 v rfl rfl
theorem zpM_apG (c : zz_S) (m : zM) (x i : Nat) (v : Int32) (h3 : Nat.beq 3 x = false) (h2 : Nat.beq 2 x = false) (h14 : Nat.beq 14 x = false) (h15 : Nat.beq 15 x = false) (h1 : Nat.beq 1 x = false) (h4 : Nat.beq 4 x = false) : zz_ap (zpM c m) x i v = zpM (zz_ap c x i v) m := by
  have hb : ∀ a, Nat.beq a x = false → Nat.beq x a = false := fun a h => zb_f (fun e => by rw [e, Nat.beq_refl] at h; cases h)
  have hx : (zpM c m).2.1 x = c.2.1 x := by
    show (bif Nat.beq x 3 then zmW m else bif Nat.beq x 2 then zmN m else bif Nat.beq x 14 then zmP m else bif Nat.beq x 15 then zmB m else bif Nat.beq x 1 then zmA m else bif Nat.beq x 4 then zmG m else c.2.1 x) = c.2.1 x
    rw [hb 3 h3, hb 2 h2, hb 14 h14, hb 15 h15, hb 1 h1, hb 4 h4]; rfl
  refine zS_ext (fun _ => rfl) (fun y j => congrFun ?_ j) (fun _ => rfl) (fun _ _ => rfl)
  show (bif Nat.beq y x then upd ((zpM c m).2.1 x) i v else (zpM c m).2.1 y) = _
  rw [hx]
  show (bif Nat.beq y x then upd (c.2.1 x) i v else (bif Nat.beq y 3 then zmW m else bif Nat.beq y 2 then zmN m else bif Nat.beq y 14 then zmP m else bif Nat.beq y 15 then zmB m else bif Nat.beq y 1 then zmA m else bif Nat.beq y 4 then zmG m else c.2.1 y)) = (bif Nat.beq y 3 then zmW m else bif Nat.beq y 2 then zmN m else bif Nat.beq y 14 then zmP m else bif Nat.beq y 15 then zmB m else bif Nat.beq y 1 then zmA m else bif Nat.beq y 4 then zmG m else (bif Nat.beq y x then upd (c.2.1 x) i v else c.2.1 y))
  cases e : Nat.beq y x with
  | false => rfl
  | true => rw [zb_t e, hb 3 h3, hb 2 h2, hb 14 h14, hb 15 h15, hb 1 h1, hb 4 h4]; rfl
theorem zpM_ap0 (c : zz_S) (m : zM) (i : Nat) (v : Int32) : zz_ap (zpM c m) 0 i v = zpM (zz_ap c 0 i v) m := zpM_apG c m 0 i v rfl rfl rfl rfl rfl rfl
theorem zpM_ap1 (c : zz_S) (m : zM) (i : Nat) (v : Int32) : zz_ap (zpM c m) 1 i v = zpM c (zmsA m (upd (zmA m) i v)) := by
  refine zS_ext (fun _ => rfl) (fun y j => congrFun ?_ j) (fun _ => rfl) (fun _ _ => rfl)
  show (bif Nat.beq y 1 then upd (zmA m) i v else (bif Nat.beq y 3 then zmW m else bif Nat.beq y 2 then zmN m else bif Nat.beq y 14 then zmP m else bif Nat.beq y 15 then zmB m else bif Nat.beq y 1 then zmA m else bif Nat.beq y 4 then zmG m else c.2.1 y)) = (bif Nat.beq y 3 then zmW (zmsA m (upd (zmA m) i v)) else bif Nat.beq y 2 then zmN (zmsA m (upd (zmA m) i v)) else bif Nat.beq y 14 then zmP (zmsA m (upd (zmA m) i v)) else bif Nat.beq y 15 then zmB (zmsA m (upd (zmA m) i v)) else bif Nat.beq y 1 then zmA (zmsA m (upd (zmA m) i v)) else bif Nat.beq y 4 then zmG (zmsA m (upd (zmA m) i v)) else c.2.1 y)
  cases e : Nat.beq y 1 with
  | true => rw [zb_t e]; rfl
  | false => rfl
theorem zpM_ap2 (c : zz_S) (m : zM) (i : Nat) (v : Int32) : zz_ap (zpM c m) 2 i v = zpM c (zmsN m (upd (zmN m) i v)) := by
  refine zS_ext (fun _ => rfl) (fun y j => congrFun ?_ j) (fun _ => rfl) (fun _ _ => rfl)
  show (bif Nat.beq y 2 then upd (zmN m) i v else (bif Nat.beq y 3 then zmW m else bif Nat.beq y 2 then zmN m else bif Nat.beq y 14 then zmP m else bif Nat.beq y 15 then zmB m else bif Nat.beq y 1 then zmA m else bif Nat.beq y 4 then zmG m else c.2.1 y)) = (bif Nat.beq y 3 then zmW (zmsN m (upd (zmN m) i v)) else bif Nat.beq y 2 then zmN (zmsN m (upd (zmN m) i v)) else bif Nat.beq y 14 then zmP (zmsN m (upd (zmN m) i v)) else bif Nat.beq y 15 then zmB (zmsN m (upd (zmN m) i v)) else bif Nat.beq y 1 then zmA (zmsN m (upd (zmN m) i v)) else bif Nat.beq y 4 then zmG (zmsN m (upd (zmN m) i v)) else c.2.1 y)
  cases e : Nat.beq y 2 with
  | true => rw [zb_t e]; rfl
  | false => rfl
theorem zpM_ap3 (c : zz_S) (m : zM) (i : Nat) (v : Int32) : zz_ap (zpM c m) 3 i v = zpM c (zmsW m (upd (zmW m) i v)) := by
  refine zS_ext (fun _ => rfl) (fun y j => congrFun ?_ j) (fun _ => rfl) (fun _ _ => rfl)
  show (bif Nat.beq y 3 then upd (zmW m) i v else (bif Nat.beq y 3 then zmW m else bif Nat.beq y 2 then zmN m else bif Nat.beq y 14 then zmP m else bif Nat.beq y 15 then zmB m else bif Nat.beq y 1 then zmA m else bif Nat.beq y 4 then zmG m else c.2.1 y)) = (bif Nat.beq y 3 then zmW (zmsW m (upd (zmW m) i v)) else bif Nat.beq y 2 then zmN (zmsW m (upd (zmW m) i v)) else bif Nat.beq y 14 then zmP (zmsW m (upd (zmW m) i v)) else bif Nat.beq y 15 then zmB (zmsW m (upd (zmW m) i v)) else bif Nat.beq y 1 then zmA (zmsW m (upd (zmW m) i v)) else bif Nat.beq y 4 then zmG (zmsW m (upd (zmW m) i v)) else c.2.1 y)
  cases e : Nat.beq y 3 with
  | true => rw [zb_t e]; rfl
  | false => rfl
theorem zpM_ap4 (c : zz_S) (m : zM) (i : Nat) (v : Int32) : zz_ap (zpM c m) 4 i v = zpM c (zmsG m (upd (zmG m) i v)) := by
  refine zS_ext (fun _ => rfl) (fun y j => congrFun ?_ j) (fun _ => rfl) (fun _ _ => rfl)
  show (bif Nat.beq y 4 then upd (zmG m) i v else (bif Nat.beq y 3 then zmW m else bif Nat.beq y 2 then zmN m else bif Nat.beq y 14 then zmP m else bif Nat.beq y 15 then zmB m else bif Nat.beq y 1 then zmA m else bif Nat.beq y 4 then zmG m else c.2.1 y)) = (bif Nat.beq y 3 then zmW (zmsG m (upd (zmG m) i v)) else bif Nat.beq y 2 then zmN (zmsG m (upd (zmG m) i v)) else bif Nat.beq y 14 then zmP (zmsG m (upd (zmG m) i v)) else bif Nat.beq y 15 then zmB (zmsG m (upd (zmG m) i v)) else bif Nat.beq y 1 then zmA (zmsG m (upd (zmG m) i v)) else bif Nat.beq y 4 then zmG (zmsG m (upd (zmG m) i v)) else c.2.1 y)
  cases e : Nat.beq y 4 with
  | true => rw [zb_t e]; rfl
  | false => rfl
theorem zpM_ap5 (c : zz_S) (m : zM) (i : Nat) (v : Int32) : zz_ap (zpM c m) 5 i v = zpM (zz_ap c 5 i v) m := zpM_apG c m 5 i v rfl rfl rfl rfl rfl rfl
theorem zpM_ap6 (c : zz_S) (m : zM) (i : Nat) (v : Int32) : zz_ap (zpM c m) 6 i v = zpM (zz_ap c 6 i v) m := zpM_apG c m 6 i v rfl rfl rfl rfl rfl rfl
theorem zpM_ap7 (c : zz_S) (m : zM) (i : Nat) (v : Int32) : zz_ap (zpM c m) 7 i v = zpM (zz_ap c 7 i v) m := zpM_apG c m 7 i v rfl rfl rfl rfl rfl rfl
theorem zpM_ap8 (c : zz_S) (m : zM) (i : Nat) (v : Int32) : zz_ap (zpM c m) 8 i v = zpM (zz_ap c 8 i v) m := zpM_apG c m 8 i v rfl rfl rfl rfl rfl rfl
theorem zpM_ap9 (c : zz_S) (m : zM) (i : Nat) (v : Int32) : zz_ap (zpM c m) 9 i v = zpM (zz_ap c 9 i v) m := zpM_apG c m 9 i v rfl rfl rfl rfl rfl rfl
theorem zpM_ap10 (c : zz_S) (m : zM) (i : Nat) (v : Int32) : zz_ap (zpM c m) 10 i v = zpM (zz_ap c 10 i v) m := zpM_apG c m 10 i v rfl rfl rfl rfl rfl rfl
theorem zpM_ap11 (c : zz_S) (m : zM) (i : Nat) (v : Int32) : zz_ap (zpM c m) 11 i v = zpM (zz_ap c 11 i v) m := zpM_apG c m 11 i v rfl rfl rfl rfl rfl rfl
theorem zpM_ap12 (c : zz_S) (m : zM) (i : Nat) (v : Int32) : zz_ap (zpM c m) 12 i v = zpM (zz_ap c 12 i v) m := zpM_apG c m 12 i v rfl rfl rfl rfl rfl rfl
theorem zpM_ap13 (c : zz_S) (m : zM) (i : Nat) (v : Int32) : zz_ap (zpM c m) 13 i v = zpM (zz_ap c 13 i v) m := zpM_apG c m 13 i v rfl rfl rfl rfl rfl rfl
theorem zpM_ap14 (c : zz_S) (m : zM) (i : Nat) (v : Int32) : zz_ap (zpM c m) 14 i v = zpM c (zmsP m (upd (zmP m) i v)) := by
  refine zS_ext (fun _ => rfl) (fun y j => congrFun ?_ j) (fun _ => rfl) (fun _ _ => rfl)
  show (bif Nat.beq y 14 then upd (zmP m) i v else (bif Nat.beq y 3 then zmW m else bif Nat.beq y 2 then zmN m else bif Nat.beq y 14 then zmP m else bif Nat.beq y 15 then zmB m else bif Nat.beq y 1 then zmA m else bif Nat.beq y 4 then zmG m else c.2.1 y)) = (bif Nat.beq y 3 then zmW (zmsP m (upd (zmP m) i v)) else bif Nat.beq y 2 then zmN (zmsP m (upd (zmP m) i v)) else bif Nat.beq y 14 then zmP (zmsP m (upd (zmP m) i v)) else bif Nat.beq y 15 then zmB (zmsP m (upd (zmP m) i v)) else bif Nat.beq y 1 then zmA (zmsP m (upd (zmP m) i v)) else bif Nat.beq y 4 then zmG (zmsP m (upd (zmP m) i v)) else c.2.1 y)
  cases e : Nat.beq y 14 with
  | true => rw [zb_t e]; rfl
  | false => rfl
theorem zpM_ap15 (c : zz_S) (m : zM) (i : Nat) (v : Int32) : zz_ap (zpM c m) 15 i v = zpM c (zmsB m (upd (zmB m) i v)) := by
  refine zS_ext (fun _ => rfl) (fun y j => congrFun ?_ j) (fun _ => rfl) (fun _ _ => rfl)
  show (bif Nat.beq y 15 then upd (zmB m) i v else (bif Nat.beq y 3 then zmW m else bif Nat.beq y 2 then zmN m else bif Nat.beq y 14 then zmP m else bif Nat.beq y 15 then zmB m else bif Nat.beq y 1 then zmA m else bif Nat.beq y 4 then zmG m else c.2.1 y)) = (bif Nat.beq y 3 then zmW (zmsB m (upd (zmB m) i v)) else bif Nat.beq y 2 then zmN (zmsB m (upd (zmB m) i v)) else bif Nat.beq y 14 then zmP (zmsB m (upd (zmB m) i v)) else bif Nat.beq y 15 then zmB (zmsB m (upd (zmB m) i v)) else bif Nat.beq y 1 then zmA (zmsB m (upd (zmB m) i v)) else bif Nat.beq y 4 then zmG (zmsB m (upd (zmB m) i v)) else c.2.1 y)
  cases e : Nat.beq y 15 with
  | true => rw [zb_t e]; rfl
  | false => rfl
theorem zpM_ap16 (c : zz_S) (m : zM) (i : Nat) (v : Int32) : zz_ap (zpM c m) 16 i v = zpM (zz_ap c 16 i v) m := zpM_apG c m 16 i v rfl rfl rfl rfl rfl rfl
theorem zpM_ap17 (c : zz_S) (m : zM) (i : Nat) (v : Int32) : zz_ap (zpM c m) 17 i v = zpM (zz_ap c 17 i v) m := zpM_apG c m 17 i v rfl rfl rfl rfl rfl rfl
theorem zpC_ag20 (c : zz_S) (m : zM) (t i : Nat) : zz_ag (zpC c m) (20 + t) i = zz_ag c (20 + t) i := by
  rw [Nat.add_comm 20 t]; rfl
theorem zpC_ap20 (c : zz_S) (m : zM) (t i : Nat) (v : Int32) : zz_ap (zpC c m) (20 + t) i v = zpC (zz_ap c (20 + t) i v) m := zpC_apG c m (20 + t) i v (zb_f (by omega)) (zb_f (by omega)) (zb_f (by omega)) (zb_f (by omega)) (zb_f (by omega)) (zb_f (by omega))
