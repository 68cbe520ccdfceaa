/-! the law's first rows: the cells that it makes -/
def zwF (cI cZ cT : ClassId) (h0 : Nat) (f : Nat → Nat) : va_W := [(h0, .inr (0, [.ref (f 0), .ref (f 7), .ref (f 21)])), ((f 0), .inr (1, [.ref (f 1), .ref (f 2), .ref (f 3), .ref (f 4), .ref (f 5), .ref (f 6), .int 0, .int 0])), ((f 1), .inl (cI, 3072, .inl (fun _ => 0))), ((f 2), .inl (cI, 16, .inl zch)), ((f 3), .inl (cZ, 16, .inl (fun _ => 0))), ((f 4), .inl (cI, 12, .inl (fun _ => 0))), ((f 5), .inl (cI, 16, .inl (fun _ => 0))), ((f 6), .inl (cI, 16, .inl (fun _ => 0))), ((f 7), .inr (2, [.ref (f 8), .int 0])), ((f 8), .inl (cT, 6, .inr (.inr (.inr (.inr (va_up (va_up (va_up (va_up (va_up (va_up (fun _ => none) 0 (some (f 9))) 1 (some (f 11))) 2 (some (f 13))) 3 (some (f 15))) 4 (some (f 17))) 5 (some (f 19)))))))), ((f 9), .inr (7, [.int (0 : Int32), .ref (f 10), .int 0, .int 0, .int 0, .int 0, .int (-1 : Int32), .int 0, .int 0, .int 0])), ((f 10), .inl (cI, 8, .inl (fun _ => 0))), ((f 11), .inr (7, [.int (1 : Int32), .ref (f 12), .int 0, .int 0, .int 0, .int 0, .int (-1 : Int32), .int 0, .int 0, .int 0])), ((f 12), .inl (cI, 8, .inl (fun _ => 0))), ((f 13), .inr (7, [.int (2 : Int32), .ref (f 14), .int 0, .int 0, .int 0, .int 0, .int (-1 : Int32), .int 0, .int 0, .int 0])), ((f 14), .inl (cI, 8, .inl (fun _ => 0))), ((f 15), .inr (7, [.int (3 : Int32), .ref (f 16), .int 0, .int 0, .int 0, .int 0, .int (-1 : Int32), .int 0, .int 0, .int 0])), ((f 16), .inl (cI, 8, .inl (fun _ => 0))), ((f 17), .inr (7, [.int (4 : Int32), .ref (f 18), .int 0, .int 0, .int 0, .int 0, .int (-1 : Int32), .int 0, .int 0, .int 0])), ((f 18), .inl (cI, 8, .inl (fun _ => 0))), ((f 19), .inr (7, [.int (5 : Int32), .ref (f 20), .int 0, .int 0, .int 0, .int 0, .int (-1 : Int32), .int 0, .int 0, .int 0])), ((f 20), .inl (cI, 8, .inl (fun _ => 0))), ((f 21), .inr (3, [.ref (f 0), .ref (f 7), .ref (f 22), .ref (f 23), .ref (f 25), .null, .int 0, .int 0, .int 0, .int 0, .int 0, .int 0, .int 0, .int 0, .null, .int 0, .int 0])), ((f 22), .inr (4, [.ref (f 0)])), ((f 23), .inr (5, [.ref (f 0), .ref (f 24), .int 0])), ((f 24), .inl (cI, 9, .inl (fun _ => 0))), ((f 25), .inr (6, [.ref (f 0), .ref (f 22), .int 0, .int 0, .int 0, .int 0, .int 0, .int 0]))]
def zwM (cI cZ cL : ClassId) (h0 : Nat) (f : Nat → Nat) : va_W := [(h0, .inr (8, [.int 0, .ref (f 0), .ref (f 1), .ref (f 2), .ref (f 3), .ref (f 4), .ref (f 5), .ref (f 6), .ref (f 7), .ref (f 8), .ref (f 9), .ref (f 10), .ref (f 11), .ref (f 12), .long 0, .int 0, .int 0, .ref (f 13), .ref (f 14), .int 0, .int 0, .int 0, .int 0, .int 0, .int 0, .ref (f 15), .int 0, .ref (f 16), .int 0, .int 0, .int 0, .int 0])), ((f 0), .inl (cI, 16, .inl zch)), ((f 1), .inl (cI, 12, .inl (fun _ => 0))), ((f 2), .inl (cI, 3072, .inl (fun _ => 0))), ((f 3), .inl (cZ, 16, .inl (fun _ => 0))), ((f 4), .inl (cI, 6, .inl (fun _ => 0))), ((f 5), .inl (cI, 6, .inl (fun _ => 0))), ((f 6), .inl (cI, 6, .inl (fun _ => 0))), ((f 7), .inl (cI, 6, .inl (fun _ => 0))), ((f 8), .inl (cI, 48, .inl (fun _ => 0))), ((f 9), .inl (cI, 6, .inl (fun _ => 0))), ((f 10), .inl (cI, 6, .inl (fun _ => 0))), ((f 11), .inl (cI, 6, .inl (fun _ => 0))), ((f 12), .inl (cL, 6, .inr (.inl (fun _ => 0)))), ((f 13), .inl (cI, 40, .inl (fun _ => 0))), ((f 14), .inl (cI, 40, .inl (fun _ => 0))), ((f 15), .inl (cI, 48, .inl (fun _ => 0))), ((f 16), .inl (cI, 6, .inl (fun _ => 0)))]
def zaC (h0 : Nat) (f : Nat → Nat) (n : Nat) : Nat := [h0, f 0, f 7, f 21, f 22, f 23, f 25, f 1, f 2, f 3, f 4, f 5, f 6, f 8, f 24, f 9, f 11, f 13, f 15, f 17, f 19, f 10, f 12, f 14, f 16, f 18, f 20].getD n 0
def zaM (h0 : Nat) (f : Nat → Nat) (n : Nat) : Nat := [h0, f 0, f 1, f 2, f 3, f 4, f 5, f 6, f 7, f 8, f 9, f 10, f 11, f 12, f 13, f 14, f 15, f 16].getD n 0
def zcC (cI cZ cT : ClassId) (n : Nat) : ClassId := [cI, cZ, cT].getD n cI
def zcM (cI cZ cL : ClassId) (n : Nat) : ClassId := [cI, cZ, cL].getD n cI
def zwA (cI cZ cT cL : ClassId) (h0 : Nat) (f : Nat → Nat) (h1 : Nat) (g : Nat → Nat) (o : Nat) : va_W := (zwF cI cZ cT h0 f ++ zwM cI cZ cL h1 g) ++ [(o, .inl (cL, 1, .inr (.inl (fun _ => 0))))]
def zwt (f : Nat → Nat) : Nat → Option Nat := va_up (va_up (va_up (va_up (va_up (va_up (fun _ => none) 0 (some (f 9))) 1 (some (f 11))) 2 (some (f 13))) 3 (some (f 15))) 4 (some (f 17))) 5 (some (f 19))
def zwB (cI cZ cT cL : ClassId) (h0 : Nat) (f : Nat → Nat) (h1 : Nat) (g : Nat → Nat) (o : Nat) : va_W := zc_w (zaC h0 f) (zcC cI cZ cT) zC0 ++ (zm_w (zaM h1 g) (zcM cI cZ cL) zM0 ++ [(o, .inl (cL, 1, .inr (.inl (fun _ => 0))))])
def zwX (cT : ClassId) (f : Nat → Nat) : Nat × va_E := (f 8, .inl (cT, 6, .inr (.inr (.inr (.inr (zwt f))))))
theorem va_P_set {D : va_G} {cl : List vw_C} {ws : va_W} {H : Heap} {n : Nat} {x y : Nat × va_E} (h : va_P D cl (ws.set n x) H) (hy : ws[n]? = some y) (hxy : va_at D cl x H → va_at D cl y H) : va_P D cl ws H := by
  intro k q hq
  by_cases e : k = n
  · subst e
    rw [hy] at hq
    cases hq
    have hk : k < ws.length := (List.getElem?_eq_some_iff.mp hy).1
    exact hxy (h k x (by rw [List.getElem?_set_self hk]))
  · exact h k q (by rw [List.getElem?_set_ne (Ne.symm e)]; exact hq)
theorem arrV_ext {cA : ClassId} {n : Nat} {f g : Nat → Value} (h : ∀ j, j < n → f j = g j) : arrV cA n f = arrV cA n g := by
  unfold arrV
  rw [show (fun j : Fin n => f j.val) = fun j => g j.val from funext fun j => h j.val j.isLt]
theorem zl_o0 : zl_o 0 = fun _ => 0 := by
  funext j
  unfold zl_o
  split <;> rfl
set_option maxRecDepth 100000 in
theorem zwA_P {D : va_G} {cI cZ cT cL : ClassId} {h0 : Nat} {f : Nat → Nat} {h1 : Nat} {g : Nat → Nat} {o : Nat} {H : Heap} (h : va_P D zt_cl (zwA cI cZ cT cL h0 f h1 g o) H) : va_P D zt_cl (zl_w (zaC h0 f) (zaM h1 g) o (zcC cI cZ cT) (zcM cI cZ cL) cL (zC0, zM0, 0)) H := by
  have e : zl_w (zaC h0 f) (zaM h1 g) o (zcC cI cZ cT) (zcM cI cZ cL) cL (zC0, zM0, 0) = zc_w (zaC h0 f) (zcC cI cZ cT) zC0 ++ (zm_w (zaM h1 g) (zcM cI cZ cL) zM0 ++ [(o, .inl (cL, 1, .inr (.inl (fun _ => 0))))]) := by
    unfold zl_w
    rw [zl_o0]
  rw [e]
  refine va_P_set (n := 13) (x := (f 8, .inl (cT, 6, .inr (.inr (.inr (.inr (zwt f))))))) (y := (f 8, .inl (cT, 6, .inr (.inr (.inr (.inr (fun j => some (zaC h0 f (15 + j))))))))) (h.sub [0, 1, 8, 22, 23, 24, 26, 2, 3, 4, 5, 6, 7, 9, 25, 10, 12, 14, 16, 18, 20, 11, 13, 15, 17, 19, 21, 27, 28, 29, 30, 31, 32, 33, 34, 35, 36, 37, 38, 39, 40, 41, 42, 43, 44, 45] rfl) rfl (fun z => ?_)
  show H[f 8]? = some (vp_cell cT _)
  rw [show H[f 8]? = some (vp_cell cT (6, .inr (.inr (.inr (.inr (zwt f)))))) from z, vp_cell_q, vp_cell_q]
  refine congrArg some (arrV_ext (fun j hj => ?_))
  have : j = 0 ∨ j = 1 ∨ j = 2 ∨ j = 3 ∨ j = 4 ∨ j = 5 := by omega
  rcases this with rfl | rfl | rfl | rfl | rfl | rfl <;> rfl
/-- only the addresses count -/
theorem va_D_adr {A B : Nat → Prop} {ws ws' : va_W} (h : va_D A ws) (he : ws'.map Prod.fst = ws.map Prod.fst) (hB : ∀ q ∈ ws.map Prod.fst, B q) : va_D B ws' := by
  have key : ∀ (i : Nat) (p : Nat × va_E), ws'[i]? = some p → ∃ q, ws[i]? = some q ∧ q.1 = p.1 := fun i p hp => by
    have h1 : (ws'.map Prod.fst)[i]? = some p.1 := by rw [List.getElem?_map, hp]; rfl
    rw [he, List.getElem?_map] at h1
    cases hq : ws[i]? with
    | none => rw [hq] at h1; cases h1
    | some q => rw [hq] at h1; exact ⟨q, rfl, Option.some.inj h1⟩
  refine ⟨fun i j p q hp hq e => ?_, fun k q hq => ?_⟩
  · obtain ⟨p', hp', ep⟩ := key i p hp
    obtain ⟨q', hq', eq⟩ := key j q hq
    exact h.1 i j p' q' hp' hq' (by rw [ep, eq, e])
  · obtain ⟨q', hq', eq⟩ := key k q hq
    rw [← eq]
    exact hB _ (List.mem_map.mpr ⟨q', List.mem_of_getElem? hq', rfl⟩)
theorem zl_adr (aC aM : Nat → Nat) (aO : Nat) (cC cM : Nat → ClassId) (cO : ClassId) (st : zl_S) : (zl_w aC aM aO cC cM cO st).map Prod.fst = (List.range 27).map aC ++ ((List.range 18).map aM ++ [aO]) := rfl
theorem zl_inas {aC aM : Nat → Nat} {aO q : Nat} (h : q ∈ (List.range 27).map aC ++ ((List.range 18).map aM ++ [aO])) : zl_as aC aM aO q := by
  rcases List.mem_append.mp h with h | h
  · obtain ⟨n, hn, e⟩ := List.mem_map.mp h
    exact Or.inl ⟨n, List.mem_range.mp hn, e.symm⟩
  · rcases List.mem_append.mp h with h | h
    · obtain ⟨n, hn, e⟩ := List.mem_map.mp h
      exact Or.inr (Or.inl ⟨n, List.mem_range.mp hn, e.symm⟩)
    · exact Or.inr (Or.inr (List.mem_singleton.mp h))
theorem zl_as_in {aC aM : Nat → Nat} {aO q : Nat} (h : zl_as aC aM aO q) : q ∈ (List.range 27).map aC ++ ((List.range 18).map aM ++ [aO]) := by
  rcases h with ⟨n, hn, e⟩ | ⟨n, hn, e⟩ | e
  · exact List.mem_append_left _ (List.mem_map.mpr ⟨n, List.mem_range.mpr hn, e.symm⟩)
  · exact List.mem_append_right _ (List.mem_append_left _ (List.mem_map.mpr ⟨n, List.mem_range.mpr hn, e.symm⟩))
  · exact List.mem_append_right _ (List.mem_append_right _ (List.mem_singleton.mpr e))
set_option maxRecDepth 100000 in
theorem zwA_D {A : Nat → Prop} {cI cZ cT cL : ClassId} {h0 : Nat} {f : Nat → Nat} {h1 : Nat} {g : Nat → Nat} {o : Nat} (h : va_D A (zwA cI cZ cT cL h0 f h1 g o)) : (∀ st, va_D (zl_as (zaC h0 f) (zaM h1 g) o) (zl_w (zaC h0 f) (zaM h1 g) o (zcC cI cZ cT) (zcM cI cZ cL) cL st)) ∧ ∀ q, zl_as (zaC h0 f) (zaM h1 g) o q → A q := by
  have h1' : va_D A ((zwB cI cZ cT cL h0 f h1 g o).set 13 (zwX cT f)) := h.sub [0, 1, 8, 22, 23, 24, 26, 2, 3, 4, 5, 6, 7, 9, 25, 10, 12, 14, 16, 18, 20, 11, 13, 15, 17, 19, 21, 27, 28, 29, 30, 31, 32, 33, 34, 35, 36, 37, 38, 39, 40, 41, 42, 43, 44, 45] (by decide) rfl
  have ea : ((zwB cI cZ cT cL h0 f h1 g o).set 13 (zwX cT f)).map Prod.fst = (List.range 27).map (zaC h0 f) ++ ((List.range 18).map (zaM h1 g) ++ [o]) := rfl
  refine ⟨fun st => va_D_adr h1' (by rw [ea]; exact zl_adr _ _ _ _ _ _ _) (fun q hq => zl_inas (by rw [ea] at hq; exact hq)), fun q hq => ?_⟩
  have hm := zl_as_in hq
  rw [← ea] at hm
  obtain ⟨x, hx, e⟩ := List.mem_map.mp hm
  obtain ⟨i, hi⟩ := List.getElem?_of_mem hx
  rw [← e]
  exact h1'.2 i x hi
theorem zl_apC {aC aM : Nat → Nat} {aO : Nat} {cC cM : Nat → ClassId} {cO : ClassId} (hap : ∀ st, va_D (zl_as aC aM aO) (zl_w aC aM aO cC cM cO st)) (st : zz_S) : va_D (zc_as aC) (zc_w aC cC st) := by
  have h := hap (st, zM0, 0)
  refine ⟨fun i j p q hp hq e => h.1 i j p q ?_ ?_ e, fun k q hq => ?_⟩
  · unfold zl_w
    rw [List.getElem?_append_left (List.getElem?_eq_some_iff.mp hp).1]; exact hp
  · unfold zl_w
    rw [List.getElem?_append_left (List.getElem?_eq_some_iff.mp hq).1]; exact hq
  · have h1 : ((zc_w aC cC st).map Prod.fst)[k]? = some q.1 := by rw [List.getElem?_map, hq]; rfl
    rw [zc_adr] at h1
    obtain ⟨n, hn, e⟩ := List.mem_map.mp (List.mem_of_getElem? h1)
    exact ⟨n, List.mem_range.mp hn, e.symm⟩
theorem zl_apM {aC aM : Nat → Nat} {aO : Nat} {cC cM : Nat → ClassId} {cO : ClassId} (hap : ∀ st, va_D (zl_as aC aM aO) (zl_w aC aM aO cC cM cO st)) (st : zz_S) : va_D (zm_as aM) (zm_w aM cM st) := by
  have h := hap (zC0, st, 0)
  have key : ∀ (i : Nat) (p : Nat × va_E), (zm_w aM cM st)[i]? = some p → (zl_w aC aM aO cC cM cO (zC0, st, 0))[27 + i]? = some p := fun i p hp => by
    unfold zl_w
    rw [List.getElem?_append_right (by rw [zc_len]; omega), zc_len, show 27 + i - 27 = i from by omega, List.getElem?_append_left (List.getElem?_eq_some_iff.mp hp).1]
    exact hp
  refine ⟨fun i j p q hp hq e => ?_, fun k q hq => ?_⟩
  · have := h.1 (27 + i) (27 + j) p q (key i p hp) (key j q hq) e
    omega
  · have h1 : ((zm_w aM cM st).map Prod.fst)[k]? = some q.1 := by rw [List.getElem?_map, hq]; rfl
    rw [zm_adr] at h1
    obtain ⟨n, hn, e⟩ := List.mem_map.mp (List.mem_of_getElem? h1)
    exact ⟨n, List.mem_range.mp hn, e.symm⟩
