/-! the stack in work, beside the memory -/
def zkC (c : zz_S) (d : Nat) (w : Nat → Int32) : zz_S := (fun j => bif Nat.beq j 13 then nI d else c.1 j, fun a => bif Nat.beq a 6 then w else c.2.1 a, c.2.2)
def zC (c : zz_S) (m : zM) (d : Nat) (w : Nat → Int32) : zz_S := zpC (zkC c d w) m
theorem zkC_spG (c : zz_S) (d : Nat) (w : Nat → Int32) (k : Nat) (v : Int32) (h : Nat.beq 13 k = false) : zz_sp (zkC c d w) k v = zkC (zz_sp c k v) d w := by
  refine zS_ext (fun j => ?_) (fun _ _ => rfl) (fun _ => rfl) (fun _ _ => rfl)
  show (bif Nat.beq j k then v else bif Nat.beq j 13 then nI d else c.1 j) = (bif Nat.beq j 13 then nI d else bif Nat.beq j k then v else c.1 j)
  cases e : Nat.beq j 13 with
  | true => rw [zb_t e, h]; rfl
  | false => rfl
theorem zkC_apG (c : zz_S) (d : Nat) (w : Nat → Int32) (x i : Nat) (v : Int32) (h : Nat.beq x 6 = false) : zz_ap (zkC c d w) x i v = zkC (zz_ap c x i v) d w := by
  have hx : (zkC c d w).2.1 x = c.2.1 x := by
    show (bif Nat.beq x 6 then w else c.2.1 x) = c.2.1 x
    rw [h]; rfl
  refine zS_ext (fun _ => rfl) (fun y j => congrFun ?_ j) (fun _ => rfl) (fun _ _ => rfl)
  show (bif Nat.beq y x then upd ((zkC c d w).2.1 x) i v else (zkC c d w).2.1 y) = _
  rw [hx]
  show (bif Nat.beq y x then upd (c.2.1 x) i v else bif Nat.beq y 6 then w else c.2.1 y) = (bif Nat.beq y 6 then w else bif Nat.beq y x then upd (c.2.1 x) i v else c.2.1 y)
  cases e : Nat.beq y x with
  | false => rfl
  | true => rw [zb_t e, h]; rfl
theorem zkC_d (c : zz_S) (d : Nat) (w : Nat → Int32) (v : Nat) : zz_sp (zkC c d w) 13 (nI v) = zkC c v w := by
  refine zS_ext (fun j => ?_) (fun _ _ => rfl) (fun _ => rfl) (fun _ _ => rfl)
  show (bif Nat.beq j 13 then nI v else bif Nat.beq j 13 then nI d else c.1 j) = (bif Nat.beq j 13 then nI v else c.1 j)
  cases e : Nat.beq j 13 <;> rfl
theorem zkC_w (c : zz_S) (d : Nat) (w : Nat → Int32) (i : Nat) (v : Int32) : zz_ap (zkC c d w) 6 i v = zkC c d (upd w i v) := by
  refine zS_ext (fun _ => rfl) (fun y j => congrFun ?_ j) (fun _ => rfl) (fun _ _ => rfl)
  show (bif Nat.beq y 6 then upd w i v else bif Nat.beq y 6 then w else c.2.1 y) = (bif Nat.beq y 6 then upd w i v else c.2.1 y)
  cases e : Nat.beq y 6 <;> rfl
theorem zC_sg0 (c : zz_S) (m : zM) (d : Nat) (w : Nat → Int32) : zz_sg (zC c m d w) 0 = nI (zmk m) := rfl
theorem zC_sp0 (c : zz_S) (m : zM) (d : Nat) (w : Nat → Int32) (v : Nat) : zz_sp (zC c m d w) 0 (nI v) = zC c (zmsk m v) d w := zpC_sp0 _ _ _
theorem zC_sg1 (c : zz_S) (m : zM) (d : Nat) (w : Nat → Int32) : zz_sg (zC c m d w) 1 = nI (zmf m) := rfl
theorem zC_sp1 (c : zz_S) (m : zM) (d : Nat) (w : Nat → Int32) (v : Nat) : zz_sp (zC c m d w) 1 (nI v) = zC c (zmsf m v) d w := zpC_sp1 _ _ _
theorem zC_sg2 (c : zz_S) (m : zM) (d : Nat) (w : Nat → Int32) : zz_sg (zC c m d w) 2 = zz_sg c 2 := rfl
theorem zC_sp2 (c : zz_S) (m : zM) (d : Nat) (w : Nat → Int32) (v : Int32) : zz_sp (zC c m d w) 2 v = zC (zz_sp c 2 v) m d w := (zpC_sp2 _ _ _).trans (congrArg (fun z => zpC z m) (zkC_spG c d w 2 v rfl))
theorem zC_sg3 (c : zz_S) (m : zM) (d : Nat) (w : Nat → Int32) : zz_sg (zC c m d w) 3 = zz_sg c 3 := rfl
theorem zC_sp3 (c : zz_S) (m : zM) (d : Nat) (w : Nat → Int32) (v : Int32) : zz_sp (zC c m d w) 3 v = zC (zz_sp c 3 v) m d w := (zpC_sp3 _ _ _).trans (congrArg (fun z => zpC z m) (zkC_spG c d w 3 v rfl))
theorem zC_sg4 (c : zz_S) (m : zM) (d : Nat) (w : Nat → Int32) : zz_sg (zC c m d w) 4 = zz_sg c 4 := rfl
theorem zC_sp4 (c : zz_S) (m : zM) (d : Nat) (w : Nat → Int32) (v : Int32) : zz_sp (zC c m d w) 4 v = zC (zz_sp c 4 v) m d w := (zpC_sp4 _ _ _).trans (congrArg (fun z => zpC z m) (zkC_spG c d w 4 v rfl))
theorem zC_sg5 (c : zz_S) (m : zM) (d : Nat) (w : Nat → Int32) : zz_sg (zC c m d w) 5 = zz_sg c 5 := rfl
theorem zC_sp5 (c : zz_S) (m : zM) (d : Nat) (w : Nat → Int32) (v : Int32) : zz_sp (zC c m d w) 5 v = zC (zz_sp c 5 v) m d w := (zpC_sp5 _ _ _).trans (congrArg (fun z => zpC z m) (zkC_spG c d w 5 v rfl))
theorem zC_sg6 (c : zz_S) (m : zM) (d : Nat) (w : Nat → Int32) : zz_sg (zC c m d w) 6 = zz_sg c 6 := rfl
theorem zC_sp6 (c : zz_S) (m : zM) (d : Nat) (w : Nat → Int32) (v : Int32) : zz_sp (zC c m d w) 6 v = zC (zz_sp c 6 v) m d w := (zpC_sp6 _ _ _).trans (congrArg (fun z => zpC z m) (zkC_spG c d w 6 v rfl))
theorem zC_sg7 (c : zz_S) (m : zM) (d : Nat) (w : Nat → Int32) : zz_sg (zC c m d w) 7 = zz_sg c 7 := rfl
theorem zC_sp7 (c : zz_S) (m : zM) (d : Nat) (w : Nat → Int32) (v : Int32) : zz_sp (zC c m d w) 7 v = zC (zz_sp c 7 v) m d w := (zpC_sp7 _ _ _).trans (congrArg (fun z => zpC z m) (zkC_spG c d w 7 v rfl))
theorem zC_sg8 (c : zz_S) (m : zM) (d : Nat) (w : Nat → Int32) : zz_sg (zC c m d w) 8 = zz_sg c 8 := rfl
theorem zC_sp8 (c : zz_S) (m : zM) (d : Nat) (w : Nat → Int32) (v : Int32) : zz_sp (zC c m d w) 8 v = zC (zz_sp c 8 v) m d w := (zpC_sp8 _ _ _).trans (congrArg (fun z => zpC z m) (zkC_spG c d w 8 v rfl))
theorem zC_sg9 (c : zz_S) (m : zM) (d : Nat) (w : Nat → Int32) : zz_sg (zC c m d w) 9 = zz_sg c 9 := rfl
theorem zC_sp9 (c : zz_S) (m : zM) (d : Nat) (w : Nat → Int32) (v : Int32) : zz_sp (zC c m d w) 9 v = zC (zz_sp c 9 v) m d w := (zpC_sp9 _ _ _).trans (congrArg (fun z => zpC z m) (zkC_spG c d w 9 v rfl))
theorem zC_sg10 (c : zz_S) (m : zM) (d : Nat) (w : Nat → Int32) : zz_sg (zC c m d w) 10 = zz_sg c 10 := rfl
theorem zC_sp10 (c : zz_S) (m : zM) (d : Nat) (w : Nat → Int32) (v : Int32) : zz_sp (zC c m d w) 10 v = zC (zz_sp c 10 v) m d w := (zpC_sp10 _ _ _).trans (congrArg (fun z => zpC z m) (zkC_spG c d w 10 v rfl))
theorem zC_sg11 (c : zz_S) (m : zM) (d : Nat) (w : Nat → Int32) : zz_sg (zC c m d w) 11 = zz_sg c 11 := rfl
theorem zC_sp11 (c : zz_S) (m : zM) (d : Nat) (w : Nat → Int32) (v : Int32) : zz_sp (zC c m d w) 11 v = zC (zz_sp c 11 v) m d w := (zpC_sp11 _ _ _).trans (congrArg (fun z => zpC z m) (zkC_spG c d w 11 v rfl))
theorem zC_sg12 (c : zz_S) (m : zM) (d : Nat) (w : Nat → Int32) : zz_sg (zC c m d w) 12 = zz_sg c 12 := rfl
theorem zC_sp12 (c : zz_S) (m : zM) (d : Nat) (w : Nat → Int32) (v : Int32) : zz_sp (zC c m d w) 12 v = zC (zz_sp c 12 v) m d w := (zpC_sp12 _ _ _).trans (congrArg (fun z => zpC z m) (zkC_spG c d w 12 v rfl))
theorem zC_sg13 (c : zz_S) (m : zM) (d : Nat) (w : Nat → Int32) : zz_sg (zC c m d w) 13 = nI d := rfl
theorem zC_sp13 (c : zz_S) (m : zM) (d : Nat) (w : Nat → Int32) (v : Nat) : zz_sp (zC c m d w) 13 (nI v) = zC c m v w := (zpC_sp13 _ _ _).trans (congrArg (fun z => zpC z m) (zkC_d c d w v))
theorem zC_sg14 (c : zz_S) (m : zM) (d : Nat) (w : Nat → Int32) : zz_sg (zC c m d w) 14 = zz_sg c 14 := rfl
theorem zC_sp14 (c : zz_S) (m : zM) (d : Nat) (w : Nat → Int32) (v : Int32) : zz_sp (zC c m d w) 14 v = zC (zz_sp c 14 v) m d w := (zpC_sp14 _ _ _).trans (congrArg (fun z => zpC z m) (zkC_spG c d w 14 v rfl))
theorem zC_sg15 (c : zz_S) (m : zM) (d : Nat) (w : Nat → Int32) : zz_sg (zC c m d w) 15 = zz_sg c 15 := rfl
theorem zC_sp15 (c : zz_S) (m : zM) (d : Nat) (w : Nat → Int32) (v : Int32) : zz_sp (zC c m d w) 15 v = zC (zz_sp c 15 v) m d w := (zpC_sp15 _ _ _).trans (congrArg (fun z => zpC z m) (zkC_spG c d w 15 v rfl))
theorem zC_sg16 (c : zz_S) (m : zM) (d : Nat) (w : Nat → Int32) : zz_sg (zC c m d w) 16 = zz_sg c 16 := rfl
theorem zC_sp16 (c : zz_S) (m : zM) (d : Nat) (w : Nat → Int32) (v : Int32) : zz_sp (zC c m d w) 16 v = zC (zz_sp c 16 v) m d w := (zpC_sp16 _ _ _).trans (congrArg (fun z => zpC z m) (zkC_spG c d w 16 v rfl))
theorem zC_sg17 (c : zz_S) (m : zM) (d : Nat) (w : Nat → Int32) : zz_sg (zC c m d w) 17 = zz_sg c 17 := rfl
theorem zC_sp17 (c : zz_S) (m : zM) (d : Nat) (w : Nat → Int32) (v : Int32) : zz_sp (zC c m d w) 17 v = zC (zz_sp c 17 v) m d w := (zpC_sp17 _ _ _).trans (congrArg (fun z => zpC z m) (zkC_spG c d w 17 v rfl))
theorem zC_sg18 (c : zz_S) (m : zM) (d : Nat) (w : Nat → Int32) : zz_sg (zC c m d w) 18 = zz_sg c 18 := rfl
theorem zC_sp18 (c : zz_S) (m : zM) (d : Nat) (w : Nat → Int32) (v : Int32) : zz_sp (zC c m d w) 18 v = zC (zz_sp c 18 v) m d w := (zpC_sp18 _ _ _).trans (congrArg (fun z => zpC z m) (zkC_spG c d w 18 v rfl))
theorem zC_sg19 (c : zz_S) (m : zM) (d : Nat) (w : Nat → Int32) : zz_sg (zC c m d w) 19 = zz_sg c 19 := rfl
theorem zC_sp19 (c : zz_S) (m : zM) (d : Nat) (w : Nat → Int32) (v : Int32) : zz_sp (zC c m d w) 19 v = zC (zz_sp c 19 v) m d w := (zpC_sp19 _ _ _).trans (congrArg (fun z => zpC z m) (zkC_spG c d w 19 v rfl))
theorem zC_ag0 (c : zz_S) (m : zM) (d : Nat) (w : Nat → Int32) (i : Nat) : zz_ag (zC c m d w) 0 i = zmW m i := rfl
theorem zC_ap0 (c : zz_S) (m : zM) (d : Nat) (w : Nat → Int32) (i : Nat) (v : Int32) : zz_ap (zC c m d w) 0 i v = zC c (zmsW m (upd (zmW m) i v)) d w := zpC_ap0 _ _ _ _
theorem zC_ag1 (c : zz_S) (m : zM) (d : Nat) (w : Nat → Int32) (i : Nat) : zz_ag (zC c m d w) 1 i = zmA m i := rfl
theorem zC_ap1 (c : zz_S) (m : zM) (d : Nat) (w : Nat → Int32) (i : Nat) (v : Int32) : zz_ap (zC c m d w) 1 i v = zC c (zmsA m (upd (zmA m) i v)) d w := zpC_ap1 _ _ _ _
theorem zC_ag2 (c : zz_S) (m : zM) (d : Nat) (w : Nat → Int32) (i : Nat) : zz_ag (zC c m d w) 2 i = zmG m i := rfl
theorem zC_ap2 (c : zz_S) (m : zM) (d : Nat) (w : Nat → Int32) (i : Nat) (v : Int32) : zz_ap (zC c m d w) 2 i v = zC c (zmsG m (upd (zmG m) i v)) d w := zpC_ap2 _ _ _ _
theorem zC_ag3 (c : zz_S) (m : zM) (d : Nat) (w : Nat → Int32) (i : Nat) : zz_ag (zC c m d w) 3 i = zmN m i := rfl
theorem zC_ap3 (c : zz_S) (m : zM) (d : Nat) (w : Nat → Int32) (i : Nat) (v : Int32) : zz_ap (zC c m d w) 3 i v = zC c (zmsN m (upd (zmN m) i v)) d w := zpC_ap3 _ _ _ _
theorem zC_ag4 (c : zz_S) (m : zM) (d : Nat) (w : Nat → Int32) (i : Nat) : zz_ag (zC c m d w) 4 i = zmP m i := rfl
theorem zC_ap4 (c : zz_S) (m : zM) (d : Nat) (w : Nat → Int32) (i : Nat) (v : Int32) : zz_ap (zC c m d w) 4 i v = zC c (zmsP m (upd (zmP m) i v)) d w := zpC_ap4 _ _ _ _
theorem zC_ag5 (c : zz_S) (m : zM) (d : Nat) (w : Nat → Int32) (i : Nat) : zz_ag (zC c m d w) 5 i = zmB m i := rfl
theorem zC_ap5 (c : zz_S) (m : zM) (d : Nat) (w : Nat → Int32) (i : Nat) (v : Int32) : zz_ap (zC c m d w) 5 i v = zC c (zmsB m (upd (zmB m) i v)) d w := zpC_ap5 _ _ _ _
theorem zC_ag6 (c : zz_S) (m : zM) (d : Nat) (w : Nat → Int32) (i : Nat) : zz_ag (zC c m d w) 6 i = w i := rfl
theorem zC_ap6 (c : zz_S) (m : zM) (d : Nat) (w : Nat → Int32) (i : Nat) (v : Int32) : zz_ap (zC c m d w) 6 i v = zC c m d (upd w i v) := (zpC_ap6 _ _ _ _).trans (congrArg (fun z => zpC z m) (zkC_w c d w i v))
theorem zC_ag7 (c : zz_S) (m : zM) (d : Nat) (w : Nat → Int32) (i : Nat) : zz_ag (zC c m d w) 7 i = zz_ag c 7 i := rfl
theorem zC_ap7 (c : zz_S) (m : zM) (d : Nat) (w : Nat → Int32) (i : Nat) (v : Int32) : zz_ap (zC c m d w) 7 i v = zC (zz_ap c 7 i v) m d w := (zpC_ap7 _ _ _ _).trans (congrArg (fun z => zpC z m) (zkC_apG c d w 7 i v rfl))
theorem zC_ag8 (c : zz_S) (m : zM) (d : Nat) (w : Nat → Int32) (i : Nat) : zz_ag (zC c m d w) 8 i = zz_ag c 8 i := rfl
theorem zC_ap8 (c : zz_S) (m : zM) (d : Nat) (w : Nat → Int32) (i : Nat) (v : Int32) : zz_ap (zC c m d w) 8 i v = zC (zz_ap c 8 i v) m d w := (zpC_ap8 _ _ _ _).trans (congrArg (fun z => zpC z m) (zkC_apG c d w 8 i v rfl))
theorem zC_ag9 (c : zz_S) (m : zM) (d : Nat) (w : Nat → Int32) (i : Nat) : zz_ag (zC c m d w) 9 i = zz_ag c 9 i := rfl
theorem zC_ap9 (c : zz_S) (m : zM) (d : Nat) (w : Nat → Int32) (i : Nat) (v : Int32) : zz_ap (zC c m d w) 9 i v = zC (zz_ap c 9 i v) m d w := (zpC_ap9 _ _ _ _).trans (congrArg (fun z => zpC z m) (zkC_apG c d w 9 i v rfl))
theorem zC_ag10 (c : zz_S) (m : zM) (d : Nat) (w : Nat → Int32) (i : Nat) : zz_ag (zC c m d w) 10 i = zz_ag c 10 i := rfl
theorem zC_ap10 (c : zz_S) (m : zM) (d : Nat) (w : Nat → Int32) (i : Nat) (v : Int32) : zz_ap (zC c m d w) 10 i v = zC (zz_ap c 10 i v) m d w := (zpC_ap10 _ _ _ _).trans (congrArg (fun z => zpC z m) (zkC_apG c d w 10 i v rfl))
theorem zC_ag11 (c : zz_S) (m : zM) (d : Nat) (w : Nat → Int32) (i : Nat) : zz_ag (zC c m d w) 11 i = zz_ag c 11 i := rfl
theorem zC_ap11 (c : zz_S) (m : zM) (d : Nat) (w : Nat → Int32) (i : Nat) (v : Int32) : zz_ap (zC c m d w) 11 i v = zC (zz_ap c 11 i v) m d w := (zpC_ap11 _ _ _ _).trans (congrArg (fun z => zpC z m) (zkC_apG c d w 11 i v rfl))
theorem zC_ag12 (c : zz_S) (m : zM) (d : Nat) (w : Nat → Int32) (i : Nat) : zz_ag (zC c m d w) 12 i = zz_ag c 12 i := rfl
theorem zC_ap12 (c : zz_S) (m : zM) (d : Nat) (w : Nat → Int32) (i : Nat) (v : Int32) : zz_ap (zC c m d w) 12 i v = zC (zz_ap c 12 i v) m d w := (zpC_ap12 _ _ _ _).trans (congrArg (fun z => zpC z m) (zkC_apG c d w 12 i v rfl))
theorem zC_ag13 (c : zz_S) (m : zM) (d : Nat) (w : Nat → Int32) (i : Nat) : zz_ag (zC c m d w) 13 i = zz_ag c 13 i := rfl
theorem zC_ap13 (c : zz_S) (m : zM) (d : Nat) (w : Nat → Int32) (i : Nat) (v : Int32) : zz_ap (zC c m d w) 13 i v = zC (zz_ap c 13 i v) m d w := (zpC_ap13 _ _ _ _).trans (congrArg (fun z => zpC z m) (zkC_apG c d w 13 i v rfl))
theorem zC_ag14 (c : zz_S) (m : zM) (d : Nat) (w : Nat → Int32) (i : Nat) : zz_ag (zC c m d w) 14 i = zz_ag c 14 i := rfl
theorem zC_ap14 (c : zz_S) (m : zM) (d : Nat) (w : Nat → Int32) (i : Nat) (v : Int32) : zz_ap (zC c m d w) 14 i v = zC (zz_ap c 14 i v) m d w := (zpC_ap14 _ _ _ _).trans (congrArg (fun z => zpC z m) (zkC_apG c d w 14 i v rfl))
theorem zC_qg (c : zz_S) (m : zM) (d : Nat) (w : Nat → Int32) (j : Nat) : zz_qg (zC c m d w) j = zz_qg c j := rfl
theorem zC_lg (c : zz_S) (m : zM) (d : Nat) (w : Nat → Int32) (a i : Nat) : zz_lg (zC c m d w) a i = zz_lg c a i := rfl
theorem zC_qp (c : zz_S) (m : zM) (d : Nat) (w : Nat → Int32) (j : Nat) (v : Option Nat) : zz_qp (zC c m d w) j v = zC (zz_qp c j v) m d w := rfl
theorem zC_lp (c : zz_S) (m : zM) (d : Nat) (w : Nat → Int32) (a i : Nat) (v : Int64) : zz_lp (zC c m d w) a i v = zC (zz_lp c a i v) m d w := rfl
def zkM (c : zz_S) (d : Nat) (w : Nat → Int32) : zz_S := (fun j => bif Nat.beq j 4 then nI d else c.1 j, fun a => bif Nat.beq a 16 then w else c.2.1 a, c.2.2)
def zR (c : zz_S) (m : zM) (d : Nat) (w : Nat → Int32) : zz_S := zpM (zkM c d w) m
theorem zkM_spG (c : zz_S) (d : Nat) (w : Nat → Int32) (k : Nat) (v : Int32) (h : Nat.beq 4 k = false) : zz_sp (zkM c d w) k v = zkM (zz_sp c k v) d w := by
  refine zS_ext (fun j => ?_) (fun _ _ => rfl) (fun _ => rfl) (fun _ _ => rfl)
  show (bif Nat.beq j k then v else bif Nat.beq j 4 then nI d else c.1 j) = (bif Nat.beq j 4 then nI d else bif Nat.beq j k then v else c.1 j)
  cases e : Nat.beq j 4 with
  | true => rw [zb_t e, h]; rfl
  | false => rfl
theorem zkM_apG (c : zz_S) (d : Nat) (w : Nat → Int32) (x i : Nat) (v : Int32) (h : Nat.beq x 16 = false) : zz_ap (zkM c d w) x i v = zkM (zz_ap c x i v) d w := by
  have hx : (zkM c d w).2.1 x = c.2.1 x := by
    show (bif Nat.beq x 16 then w else c.2.1 x) = c.2.1 x
    rw [h]; rfl
  refine zS_ext (fun _ => rfl) (fun y j => congrFun ?_ j) (fun _ => rfl) (fun _ _ => rfl)
  show (bif Nat.beq y x then upd ((zkM c d w).2.1 x) i v else (zkM c d w).2.1 y) = _
  rw [hx]
  show (bif Nat.beq y x then upd (c.2.1 x) i v else bif Nat.beq y 16 then w else c.2.1 y) = (bif Nat.beq y 16 then w else bif Nat.beq y x then upd (c.2.1 x) i v else c.2.1 y)
  cases e : Nat.beq y x with
  | false => rfl
  | true => rw [zb_t e, h]; rfl
theorem zkM_d (c : zz_S) (d : Nat) (w : Nat → Int32) (v : Nat) : zz_sp (zkM c d w) 4 (nI v) = zkM c v w := by
  refine zS_ext (fun j => ?_) (fun _ _ => rfl) (fun _ => rfl) (fun _ _ => rfl)
  show (bif Nat.beq j 4 then nI v else bif Nat.beq j 4 then nI d else c.1 j) = (bif Nat.beq j 4 then nI v else c.1 j)
  cases e : Nat.beq j 4 <;> rfl
theorem zkM_w (c : zz_S) (d : Nat) (w : Nat → Int32) (i : Nat) (v : Int32) : zz_ap (zkM c d w) 16 i v = zkM c d (upd w i v) := by
  refine zS_ext (fun _ => rfl) (fun y j => congrFun ?_ j) (fun _ => rfl) (fun _ _ => rfl)
  show (bif Nat.beq y 16 then upd w i v else bif Nat.beq y 16 then w else c.2.1 y) = (bif Nat.beq y 16 then upd w i v else c.2.1 y)
  cases e : Nat.beq y 16 <;> rfl
theorem zR_sg0 (c : zz_S) (m : zM) (d : Nat) (w : Nat → Int32) : zz_sg (zR c m d w) 0 = zz_sg c 0 := rfl
theorem zR_sp0 (c : zz_S) (m : zM) (d : Nat) (w : Nat → Int32) (v : Int32) : zz_sp (zR c m d w) 0 v = zR (zz_sp c 0 v) m d w := (zpM_sp0 _ _ _).trans (congrArg (fun z => zpM z m) (zkM_spG c d w 0 v rfl))
theorem zR_sg1 (c : zz_S) (m : zM) (d : Nat) (w : Nat → Int32) : zz_sg (zR c m d w) 1 = nI (zmk m) := rfl
theorem zR_sp1 (c : zz_S) (m : zM) (d : Nat) (w : Nat → Int32) (v : Nat) : zz_sp (zR c m d w) 1 (nI v) = zR c (zmsk m v) d w := zpM_sp1 _ _ _
theorem zR_sg2 (c : zz_S) (m : zM) (d : Nat) (w : Nat → Int32) : zz_sg (zR c m d w) 2 = nI (zmf m) := rfl
theorem zR_sp2 (c : zz_S) (m : zM) (d : Nat) (w : Nat → Int32) (v : Nat) : zz_sp (zR c m d w) 2 (nI v) = zR c (zmsf m v) d w := zpM_sp2 _ _ _
theorem zR_sg3 (c : zz_S) (m : zM) (d : Nat) (w : Nat → Int32) : zz_sg (zR c m d w) 3 = zz_sg c 3 := rfl
theorem zR_sp3 (c : zz_S) (m : zM) (d : Nat) (w : Nat → Int32) (v : Int32) : zz_sp (zR c m d w) 3 v = zR (zz_sp c 3 v) m d w := (zpM_sp3 _ _ _).trans (congrArg (fun z => zpM z m) (zkM_spG c d w 3 v rfl))
theorem zR_sg4 (c : zz_S) (m : zM) (d : Nat) (w : Nat → Int32) : zz_sg (zR c m d w) 4 = nI d := rfl
theorem zR_sp4 (c : zz_S) (m : zM) (d : Nat) (w : Nat → Int32) (v : Nat) : zz_sp (zR c m d w) 4 (nI v) = zR c m v w := (zpM_sp4 _ _ _).trans (congrArg (fun z => zpM z m) (zkM_d c d w v))
theorem zR_sg5 (c : zz_S) (m : zM) (d : Nat) (w : Nat → Int32) : zz_sg (zR c m d w) 5 = zz_sg c 5 := rfl
theorem zR_sp5 (c : zz_S) (m : zM) (d : Nat) (w : Nat → Int32) (v : Int32) : zz_sp (zR c m d w) 5 v = zR (zz_sp c 5 v) m d w := (zpM_sp5 _ _ _).trans (congrArg (fun z => zpM z m) (zkM_spG c d w 5 v rfl))
theorem zR_sg6 (c : zz_S) (m : zM) (d : Nat) (w : Nat → Int32) : zz_sg (zR c m d w) 6 = zz_sg c 6 := rfl
theorem zR_sp6 (c : zz_S) (m : zM) (d : Nat) (w : Nat → Int32) (v : Int32) : zz_sp (zR c m d w) 6 v = zR (zz_sp c 6 v) m d w := (zpM_sp6 _ _ _).trans (congrArg (fun z => zpM z m) (zkM_spG c d w 6 v rfl))
theorem zR_sg7 (c : zz_S) (m : zM) (d : Nat) (w : Nat → Int32) : zz_sg (zR c m d w) 7 = zz_sg c 7 := rfl
theorem zR_sp7 (c : zz_S) (m : zM) (d : Nat) (w : Nat → Int32) (v : Int32) : zz_sp (zR c m d w) 7 v = zR (zz_sp c 7 v) m d w := (zpM_sp7 _ _ _).trans (congrArg (fun z => zpM z m) (zkM_spG c d w 7 v rfl))
theorem zR_sg8 (c : zz_S) (m : zM) (d : Nat) (w : Nat → Int32) : zz_sg (zR c m d w) 8 = zz_sg c 8 := rfl
theorem zR_sp8 (c : zz_S) (m : zM) (d : Nat) (w : Nat → Int32) (v : Int32) : zz_sp (zR c m d w) 8 v = zR (zz_sp c 8 v) m d w := (zpM_sp8 _ _ _).trans (congrArg (fun z => zpM z m) (zkM_spG c d w 8 v rfl))
theorem zR_sg9 (c : zz_S) (m : zM) (d : Nat) (w : Nat → Int32) : zz_sg (zR c m d w) 9 = zz_sg c 9 := rfl
theorem zR_sp9 (c : zz_S) (m : zM) (d : Nat) (w : Nat → Int32) (v : Int32) : zz_sp (zR c m d w) 9 v = zR (zz_sp c 9 v) m d w := (zpM_sp9 _ _ _).trans (congrArg (fun z => zpM z m) (zkM_spG c d w 9 v rfl))
theorem zR_sg10 (c : zz_S) (m : zM) (d : Nat) (w : Nat → Int32) : zz_sg (zR c m d w) 10 = zz_sg c 10 := rfl
theorem zR_sp10 (c : zz_S) (m : zM) (d : Nat) (w : Nat → Int32) (v : Int32) : zz_sp (zR c m d w) 10 v = zR (zz_sp c 10 v) m d w := (zpM_sp10 _ _ _).trans (congrArg (fun z => zpM z m) (zkM_spG c d w 10 v rfl))
theorem zR_sg11 (c : zz_S) (m : zM) (d : Nat) (w : Nat → Int32) : zz_sg (zR c m d w) 11 = zz_sg c 11 := rfl
theorem zR_sp11 (c : zz_S) (m : zM) (d : Nat) (w : Nat → Int32) (v : Int32) : zz_sp (zR c m d w) 11 v = zR (zz_sp c 11 v) m d w := (zpM_sp11 _ _ _).trans (congrArg (fun z => zpM z m) (zkM_spG c d w 11 v rfl))
theorem zR_sg12 (c : zz_S) (m : zM) (d : Nat) (w : Nat → Int32) : zz_sg (zR c m d w) 12 = zz_sg c 12 := rfl
theorem zR_sp12 (c : zz_S) (m : zM) (d : Nat) (w : Nat → Int32) (v : Int32) : zz_sp (zR c m d w) 12 v = zR (zz_sp c 12 v) m d w := (zpM_sp12 _ _ _).trans (congrArg (fun z => zpM z m) (zkM_spG c d w 12 v rfl))
theorem zR_sg13 (c : zz_S) (m : zM) (d : Nat) (w : Nat → Int32) : zz_sg (zR c m d w) 13 = zz_sg c 13 := rfl
theorem zR_sp13 (c : zz_S) (m : zM) (d : Nat) (w : Nat → Int32) (v : Int32) : zz_sp (zR c m d w) 13 v = zR (zz_sp c 13 v) m d w := (zpM_sp13 _ _ _).trans (congrArg (fun z => zpM z m) (zkM_spG c d w 13 v rfl))
theorem zR_ag0 (c : zz_S) (m : zM) (d : Nat) (w : Nat → Int32) (i : Nat) : zz_ag (zR c m d w) 0 i = zz_ag c 0 i := rfl
theorem zR_ap0 (c : zz_S) (m : zM) (d : Nat) (w : Nat → Int32) (i : Nat) (v : Int32) : zz_ap (zR c m d w) 0 i v = zR (zz_ap c 0 i v) m d w := (zpM_ap0 _ _ _ _).trans (congrArg (fun z => zpM z m) (zkM_apG c d w 0 i v rfl))
theorem zR_ag1 (c : zz_S) (m : zM) (d : Nat) (w : Nat → Int32) (i : Nat) : zz_ag (zR c m d w) 1 i = zmA m i := rfl
theorem zR_ap1 (c : zz_S) (m : zM) (d : Nat) (w : Nat → Int32) (i : Nat) (v : Int32) : zz_ap (zR c m d w) 1 i v = zR c (zmsA m (upd (zmA m) i v)) d w := zpM_ap1 _ _ _ _
theorem zR_ag2 (c : zz_S) (m : zM) (d : Nat) (w : Nat → Int32) (i : Nat) : zz_ag (zR c m d w) 2 i = zmN m i := rfl
theorem zR_ap2 (c : zz_S) (m : zM) (d : Nat) (w : Nat → Int32) (i : Nat) (v : Int32) : zz_ap (zR c m d w) 2 i v = zR c (zmsN m (upd (zmN m) i v)) d w := zpM_ap2 _ _ _ _
theorem zR_ag3 (c : zz_S) (m : zM) (d : Nat) (w : Nat → Int32) (i : Nat) : zz_ag (zR c m d w) 3 i = zmW m i := rfl
theorem zR_ap3 (c : zz_S) (m : zM) (d : Nat) (w : Nat → Int32) (i : Nat) (v : Int32) : zz_ap (zR c m d w) 3 i v = zR c (zmsW m (upd (zmW m) i v)) d w := zpM_ap3 _ _ _ _
theorem zR_ag4 (c : zz_S) (m : zM) (d : Nat) (w : Nat → Int32) (i : Nat) : zz_ag (zR c m d w) 4 i = zmG m i := rfl
theorem zR_ap4 (c : zz_S) (m : zM) (d : Nat) (w : Nat → Int32) (i : Nat) (v : Int32) : zz_ap (zR c m d w) 4 i v = zR c (zmsG m (upd (zmG m) i v)) d w := zpM_ap4 _ _ _ _
theorem zR_ag5 (c : zz_S) (m : zM) (d : Nat) (w : Nat → Int32) (i : Nat) : zz_ag (zR c m d w) 5 i = zz_ag c 5 i := rfl
theorem zR_ap5 (c : zz_S) (m : zM) (d : Nat) (w : Nat → Int32) (i : Nat) (v : Int32) : zz_ap (zR c m d w) 5 i v = zR (zz_ap c 5 i v) m d w := (zpM_ap5 _ _ _ _).trans (congrArg (fun z => zpM z m) (zkM_apG c d w 5 i v rfl))
theorem zR_ag6 (c : zz_S) (m : zM) (d : Nat) (w : Nat → Int32) (i : Nat) : zz_ag (zR c m d w) 6 i = zz_ag c 6 i := rfl
theorem zR_ap6 (c : zz_S) (m : zM) (d : Nat) (w : Nat → Int32) (i : Nat) (v : Int32) : zz_ap (zR c m d w) 6 i v = zR (zz_ap c 6 i v) m d w := (zpM_ap6 _ _ _ _).trans (congrArg (fun z => zpM z m) (zkM_apG c d w 6 i v rfl))
theorem zR_ag7 (c : zz_S) (m : zM) (d : Nat) (w : Nat → Int32) (i : Nat) : zz_ag (zR c m d w) 7 i = zz_ag c 7 i := rfl
theorem zR_ap7 (c : zz_S) (m : zM) (d : Nat) (w : Nat → Int32) (i : Nat) (v : Int32) : zz_ap (zR c m d w) 7 i v = zR (zz_ap c 7 i v) m d w := (zpM_ap7 _ _ _ _).trans (congrArg (fun z => zpM z m) (zkM_apG c d w 7 i v rfl))
theorem zR_ag8 (c : zz_S) (m : zM) (d : Nat) (w : Nat → Int32) (i : Nat) : zz_ag (zR c m d w) 8 i = zz_ag c 8 i := rfl
theorem zR_ap8 (c : zz_S) (m : zM) (d : Nat) (w : Nat → Int32) (i : Nat) (v : Int32) : zz_ap (zR c m d w) 8 i v = zR (zz_ap c 8 i v) m d w := (zpM_ap8 _ _ _ _).trans (congrArg (fun z => zpM z m) (zkM_apG c d w 8 i v rfl))
theorem zR_ag9 (c : zz_S) (m : zM) (d : Nat) (w : Nat → Int32) (i : Nat) : zz_ag (zR c m d w) 9 i = zz_ag c 9 i := rfl
theorem zR_ap9 (c : zz_S) (m : zM) (d : Nat) (w : Nat → Int32) (i : Nat) (v : Int32) : zz_ap (zR c m d w) 9 i v = zR (zz_ap c 9 i v) m d w := (zpM_ap9 _ _ _ _).trans (congrArg (fun z => zpM z m) (zkM_apG c d w 9 i v rfl))
theorem zR_ag10 (c : zz_S) (m : zM) (d : Nat) (w : Nat → Int32) (i : Nat) : zz_ag (zR c m d w) 10 i = zz_ag c 10 i := rfl
theorem zR_ap10 (c : zz_S) (m : zM) (d : Nat) (w : Nat → Int32) (i : Nat) (v : Int32) : zz_ap (zR c m d w) 10 i v = zR (zz_ap c 10 i v) m d w := (zpM_ap10 _ _ _ _).trans (congrArg (fun z => zpM z m) (zkM_apG c d w 10 i v rfl))
theorem zR_ag11 (c : zz_S) (m : zM) (d : Nat) (w : Nat → Int32) (i : Nat) : zz_ag (zR c m d w) 11 i = zz_ag c 11 i := rfl
theorem zR_ap11 (c : zz_S) (m : zM) (d : Nat) (w : Nat → Int32) (i : Nat) (v : Int32) : zz_ap (zR c m d w) 11 i v = zR (zz_ap c 11 i v) m d w := (zpM_ap11 _ _ _ _).trans (congrArg (fun z => zpM z m) (zkM_apG c d w 11 i v rfl))
theorem zR_ag12 (c : zz_S) (m : zM) (d : Nat) (w : Nat → Int32) (i : Nat) : zz_ag (zR c m d w) 12 i = zz_ag c 12 i := rfl
theorem zR_ap12 (c : zz_S) (m : zM) (d : Nat) (w : Nat → Int32) (i : Nat) (v : Int32) : zz_ap (zR c m d w) 12 i v = zR (zz_ap c 12 i v) m d w := (zpM_ap12 _ _ _ _).trans (congrArg (fun z => zpM z m) (zkM_apG c d w 12 i v rfl))
theorem zR_ag13 (c : zz_S) (m : zM) (d : Nat) (w : Nat → Int32) (i : Nat) : zz_ag (zR c m d w) 13 i = zz_ag c 13 i := rfl
theorem zR_ap13 (c : zz_S) (m : zM) (d : Nat) (w : Nat → Int32) (i : Nat) (v : Int32) : zz_ap (zR c m d w) 13 i v = zR (zz_ap c 13 i v) m d w := (zpM_ap13 _ _ _ _).trans (congrArg (fun z => zpM z m) (zkM_apG c d w 13 i v rfl))
theorem zR_ag14 (c : zz_S) (m : zM) (d : Nat) (w : Nat → Int32) (i : Nat) : zz_ag (zR c m d w) 14 i = zmP m i := rfl
theorem zR_ap14 (c : zz_S) (m : zM) (d : Nat) (w : Nat → Int32) (i : Nat) (v : Int32) : zz_ap (zR c m d w) 14 i v = zR c (zmsP m (upd (zmP m) i v)) d w := zpM_ap14 _ _ _ _
theorem zR_ag15 (c : zz_S) (m : zM) (d : Nat) (w : Nat → Int32) (i : Nat) : zz_ag (zR c m d w) 15 i = zmB m i := rfl
theorem zR_ap15 (c : zz_S) (m : zM) (d : Nat) (w : Nat → Int32) (i : Nat) (v : Int32) : zz_ap (zR c m d w) 15 i v = zR c (zmsB m (upd (zmB m) i v)) d w := zpM_ap15 _ _ _ _
theorem zR_ag16 (c : zz_S) (m : zM) (d : Nat) (w : Nat → Int32) (i : Nat) : zz_ag (zR c m d w) 16 i = w i := rfl
theorem zR_ap16 (c : zz_S) (m : zM) (d : Nat) (w : Nat → Int32) (i : Nat) (v : Int32) : zz_ap (zR c m d w) 16 i v = zR c m d (upd w i v) := (zpM_ap16 _ _ _ _).trans (congrArg (fun z => zpM z m) (zkM_w c d w i v))
theorem zR_ag17 (c : zz_S) (m : zM) (d : Nat) (w : Nat → Int32) (i : Nat) : zz_ag (zR c m d w) 17 i = zz_ag c 17 i := rfl
theorem zR_ap17 (c : zz_S) (m : zM) (d : Nat) (w : Nat → Int32) (i : Nat) (v : Int32) : zz_ap (zR c m d w) 17 i v = zR (zz_ap c 17 i v) m d w := (zpM_ap17 _ _ _ _).trans (congrArg (fun z => zpM z m) (zkM_apG c d w 17 i v rfl))
theorem zR_qg (c : zz_S) (m : zM) (d : Nat) (w : Nat → Int32) (j : Nat) : zz_qg (zR c m d w) j = zz_qg c j := rfl
theorem zR_lg (c : zz_S) (m : zM) (d : Nat) (w : Nat → Int32) (a i : Nat) : zz_lg (zR c m d w) a i = zz_lg c a i := rfl
theorem zR_qp (c : zz_S) (m : zM) (d : Nat) (w : Nat → Int32) (j : Nat) (v : Option Nat) : zz_qp (zR c m d w) j v = zR (zz_qp c j v) m d w := rfl
theorem zR_lp (c : zz_S) (m : zM) (d : Nat) (w : Nat → Int32) (a i : Nat) (v : Int64) : zz_lp (zR c m d w) a i v = zR (zz_lp c a i v) m d w := rfl
theorem zC_ag20 (c : zz_S) (m : zM) (d : Nat) (w : Nat → Int32) (t i : Nat) : zz_ag (zC c m d w) (20 + t) i = zz_ag c (20 + t) i := by
  rw [Nat.add_comm 20 t]; rfl
theorem zC_ap20 (c : zz_S) (m : zM) (d : Nat) (w : Nat → Int32) (t i : Nat) (v : Int32) : zz_ap (zC c m d w) (20 + t) i v = zC (zz_ap c (20 + t) i v) m d w := (zpC_ap20 _ _ _ _ _).trans (congrArg (fun z => zpC z m) (zkC_apG c d w (20 + t) i v (zb_f (by omega))))
