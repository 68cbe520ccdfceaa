/-! the law's world: the component's cells, the reference's, and the array of one long -/
abbrev zl_S : Type := zz_S × zz_S × Int64
def zl_o (o : Int64) : Nat → Int64 := fun j => if j = 0 then o else 0
theorem zl_o_put (o x : Int64) : vp_updL (zl_o o) 0 x = zl_o x := by
  funext j
  by_cases h : j = 0
  · simp [vp_updL, zl_o, h]
  · simp [vp_updL, zl_o, h]
def zl_w (aC aM : Nat → Nat) (aO : Nat) (cC cM : Nat → ClassId) (cO : ClassId) (st : zl_S) : va_W := zc_w aC cC st.1 ++ (zm_w aM cM st.2.1 ++ [(aO, .inl (cO, 1, .inr (.inl (zl_o st.2.2))))])
def zl_ty (cC cM : Nat → ClassId) (cO : ClassId) : List (ClassId × FieldType) := zc_ty cC ++ (zm_ty cM ++ [(cO, .long)])
def zl_as (aC aM : Nat → Nat) (aO : Nat) : Nat → Prop := fun q => zc_as aC q ∨ zm_as aM q ∨ q = aO
def zl_sf (aC aM : Nat → Nat) (aO tb : Nat) : State → Prop := fun U => va_Z "FrameProcessor$Instruction" "OPERAND_BYTES" "[I" (.ref tb) (zl_as aC aM aO) U U.heap ∧ va_T .int tb 46 (fun j => .int (zc_tab j)) (zl_as aC aM aO) U U.heap ∧ zx_Z Bundle.tN "UNASSIGNED_STACK" Bundle.steD (zl_as aC aM aO) U U.heap ∧ zx_Z Bundle.tN "SUPPRESSED_SENTINEL" Bundle.listD (zl_as aC aM aO) U U.heap ∧ (∀ w ∈ zx_n, va_Nw w U) ∧ va_Nc "java/lang/IllegalStateException" "java/lang/IndexOutOfBoundsException" U
def zl_V (l : Launch) (D : va_G) (aC aM : Nat → Nat) (aO : Nat) (cC cM : Nat → ClassId) (cO : ClassId) (tb : Nat) : zz_V zl_S := (l, D, zt_cl, zl_ty cC cM cO, zl_sf aC aM aO tb, zl_as aC aM aO, zl_w aC aM aO cC cM cO)
section ZLW
variable {l : Launch} {D : va_G} {aC aM : Nat → Nat} {aO : Nat} {cC cM : Nat → ClassId} {cO : ClassId} {tb : Nat}
theorem zl_sfm (u U : State) (lc : List Loc) (h : zl_sf aC aM aO tb u) (hS : va_S (zl_as aC aM aO) u.heap U.heap lc) (hW : u.WarmedH U.vm) : zl_sf aC aM aO tb U :=
  ⟨(h.1.kept (fun a h1 h2 => hS.2.1 a h1 h2)).moved hW.alike, (h.2.1.kept (fun a h1 h2 => hS.2.1 a h1 h2)).moved hW.alike, (h.2.2.1.kept (fun a h1 h2 => hS.2.1 a h1 h2)).moved hW.alike, (h.2.2.2.1.kept (fun a h1 h2 => hS.2.1 a h1 h2)).moved hW.alike, zx_nm hW h.2.2.2.2.1, h.2.2.2.2.2.moved hW.alike⟩
theorem zl_sfC {U : State} (h : zl_sf aC aM aO tb U) : zc_sf aC tb U :=
  ⟨h.1.narrow (fun _ q => Or.inl q), h.2.1.narrow (fun _ q => Or.inl q), h.2.2.1.narrow (fun _ q => Or.inl q), h.2.2.2.1.narrow (fun _ q => Or.inl q), h.2.2.2.2.1⟩
theorem zl_ok (hap : ∀ st, va_D (zl_as aC aM aO) (zl_w aC aM aO cC cM cO st)) : zz_ok (zl_V l D aC aM aO cC cM cO tb) := ⟨hap, fun u U lc h hS hW => zl_sfm u U lc h hS hW⟩
theorem zl_KC {U : State} (h : va_K D zt_cl (zl_ty cC cM cO) U) : va_K D zt_cl (zc_ty cC) U := ⟨h.1, fun k q hq => h.2 k q (by
  have hk : k < (zc_ty cC).length := (List.getElem?_eq_some_iff.mp hq).1
  unfold zl_ty
  rw [List.getElem?_append_left hk]; exact hq)⟩
theorem zl_KM {U : State} (h : va_K D zt_cl (zl_ty cC cM cO) U) : va_K D zt_cl (zm_ty cM) U := ⟨h.1, fun k q hq => h.2 (3 + k) q (by
  have hk : k < (zm_ty cM).length := (List.getElem?_eq_some_iff.mp hq).1
  unfold zl_ty
  rw [List.getElem?_append_right (show (zc_ty cC).length ≤ 3 + k from Nat.le_add_right _ _), show 3 + k - (zc_ty cC).length = k from Nat.add_sub_cancel_left 3 k, List.getElem?_append_left hk]; exact hq)⟩
theorem zc_len (ad : Nat → Nat) (cA : Nat → ClassId) (st : zz_S) : (zc_w ad cA st).length = 27 := rfl
theorem zm_len (ad : Nat → Nat) (cA : Nat → ClassId) (st : zz_S) : (zm_w ad cA st).length = 18 := rfl
theorem zc_adr (ad : Nat → Nat) (cA : Nat → ClassId) (st : zz_S) : (zc_w ad cA st).map Prod.fst = (List.range 27).map ad := rfl
theorem zm_adr (ad : Nat → Nat) (cA : Nat → ClassId) (st : zz_S) : (zm_w ad cA st).map Prod.fst = (List.range 18).map ad := rfl
/-- whose address is in as lies in the world -/
theorem zc_in (ad : Nat → Nat) (cA : Nat → ClassId) (st : zz_S) {q : Nat} (h : zc_as ad q) : ∃ (n : Nat) (e : va_E), n < 27 ∧ (zc_w ad cA st)[n]? = some (q, e) := by
  obtain ⟨n, hn, rfl⟩ := h
  have h1 : ((zc_w ad cA st).map Prod.fst)[n]? = some (ad n) := by rw [zc_adr]; simp [hn]
  rw [List.getElem?_map] at h1
  cases hc : (zc_w ad cA st)[n]? with
  | none => rw [hc] at h1; cases h1
  | some x =>
    rw [hc] at h1
    have h2 : x.1 = ad n := Option.some.inj h1
    exact ⟨n, x.2, hn, by rw [hc, ← h2]⟩
theorem zm_in (ad : Nat → Nat) (cA : Nat → ClassId) (st : zz_S) {q : Nat} (h : zm_as ad q) : ∃ (n : Nat) (e : va_E), n < 18 ∧ (zm_w ad cA st)[n]? = some (q, e) := by
  obtain ⟨n, hn, rfl⟩ := h
  have h1 : ((zm_w ad cA st).map Prod.fst)[n]? = some (ad n) := by rw [zm_adr]; simp [hn]
  rw [List.getElem?_map] at h1
  cases hc : (zm_w ad cA st)[n]? with
  | none => rw [hc] at h1; cases h1
  | some x =>
    rw [hc] at h1
    have h2 : x.1 = ad n := Option.some.inj h1
    exact ⟨n, x.2, hn, by rw [hc, ← h2]⟩
theorem zl_disC (hap : ∀ st, va_D (zl_as aC aM aO) (zl_w aC aM aO cC cM cO st)) (st : zl_S) {k : Nat} {q : Nat × va_E} (hq : (zm_w aM cM st.2.1 ++ [(aO, .inl (cO, 1, .inr (.inl (zl_o st.2.2))))])[k]? = some q) : ¬ zc_as aC q.1 := by
  intro h
  obtain ⟨n, e, hn, hx⟩ := zc_in aC cC st.1 h
  have h1 : (zl_w aC aM aO cC cM cO st)[n]? = some (q.1, e) := by
    unfold zl_w
    rw [List.getElem?_append_left (by rw [zc_len]; exact hn)]; exact hx
  have h2 : (zl_w aC aM aO cC cM cO st)[27 + k]? = some q := by
    unfold zl_w
    rw [List.getElem?_append_right (by rw [zc_len]; exact Nat.le_add_right _ _), zc_len, Nat.add_sub_cancel_left]; exact hq
  have := (hap st).1 n (27 + k) _ _ h1 h2 rfl
  omega
theorem zl_disM (hap : ∀ st, va_D (zl_as aC aM aO) (zl_w aC aM aO cC cM cO st)) (st : zl_S) {k : Nat} {q : Nat × va_E} (hq : (zc_w aC cC st.1)[k]? = some q ∨ q = (aO, .inl (cO, 1, .inr (.inl (zl_o st.2.2))))) : ¬ zm_as aM q.1 := by
  intro h
  obtain ⟨n, e, hn, hx⟩ := zm_in aM cM st.2.1 h
  have h1 : (zl_w aC aM aO cC cM cO st)[27 + n]? = some (q.1, e) := by
    unfold zl_w
    rw [List.getElem?_append_right (by rw [zc_len]; exact Nat.le_add_right _ _), zc_len, Nat.add_sub_cancel_left, List.getElem?_append_left (by rw [zm_len]; exact hn)]; exact hx
  rcases hq with hq | hq
  · have hk : k < 27 := by have := (List.getElem?_eq_some_iff.mp hq).1; rw [zc_len] at this; exact this
    have h2 : (zl_w aC aM aO cC cM cO st)[k]? = some q := by
      unfold zl_w
      rw [List.getElem?_append_left (by rw [zc_len]; exact hk)]; exact hq
    have := (hap st).1 (27 + n) k _ _ h1 h2 rfl
    omega
  · have h2 : (zl_w aC aM aO cC cM cO st)[27 + 18]? = some q := by
      unfold zl_w
      rw [List.getElem?_append_right (by rw [zc_len]; exact Nat.le_add_right _ _), zc_len, Nat.add_sub_cancel_left, List.getElem?_append_right (by rw [zm_len]; exact Nat.le_refl _), zm_len, hq]; rfl
    have := (hap st).1 (27 + n) (27 + 18) _ _ h1 h2 rfl
    omega
theorem zl_C {α : Type} (hap : ∀ st, va_D (zl_as aC aM aO) (zl_w aC aM aO cC cM cO st)) {y : MethodName} {ws : List Cond} {rm : Room} {inj : α → Option Value} {av : List Value} (st : zl_S) {k : Option (α × zz_S)} (h : zz_C (zc_V l D aC cC tb) y ws rm inj av st.1 k) : zz_C (zl_V l D aC aM aO cC cM cO tb) y ws rm inj av st (zz_lf (fun s => ((s, st.2) : zl_S)) k) := by
  intro o hk
  obtain ⟨r, s1, e1, rfl⟩ := zz_lf_some hk
  have hM := h (r, s1) e1
  refine MetFree.mono hM ?_ (fun _ _ _ _ _ h => h) ?_
  · rintro a s0 ⟨h0, hP, hK, hN⟩
    exact ⟨h0, (va_P_app.mp hP).1, zl_KC hK, zl_sfC hN⟩
  · rintro a s0 oc t ⟨h0, hP, hK, hN⟩ ⟨⟨⟨h1, h2⟩, h3⟩, Lc, h4, h5⟩
    have hr := (va_P_app.mp hP).2
    exact ⟨⟨⟨h1, va_P_app.mpr ⟨h2, hr.kept (fun k q hq => h3.2 q.1 (hr k q hq).lt (zl_disC hap st hq))⟩⟩, h3.1, fun q a b => h3.2 q a (fun z => b (Or.inl z))⟩, Lc, h4, fun q hq => Or.inl (h5 q hq)⟩
theorem zl_M {α : Type} (hap : ∀ st, va_D (zl_as aC aM aO) (zl_w aC aM aO cC cM cO st)) {y : MethodName} {ws : List Cond} {rm : Room} {inj : α → Option Value} {av : List Value} (st : zl_S) {k : Option (α × zz_S)} (h : zz_C (zm_V l D aM cM tb) y ws rm inj av st.2.1 k) : zz_C (zl_V l D aC aM aO cC cM cO tb) y ws rm inj av st (zz_lf (fun s => ((st.1, s, st.2.2) : zl_S)) k) := by
  intro o hk
  obtain ⟨r, s1, e1, rfl⟩ := zz_lf_some hk
  have hM := h (r, s1) e1
  refine MetFree.mono hM ?_ (fun _ _ _ _ _ h => h) ?_
  · rintro a s0 ⟨h0, hP, hK, hN⟩
    exact ⟨h0, (va_P_app.mp (va_P_app.mp hP).2).1, zl_KM hK, trivial⟩
  · rintro a s0 oc t ⟨h0, hP, hK, hN⟩ ⟨⟨⟨h1, h2⟩, h3⟩, Lc, h4, h5⟩
    obtain ⟨p1, p2⟩ := va_P_app.mp hP
    obtain ⟨p2, p3⟩ := va_P_app.mp p2
    refine ⟨⟨⟨h1, va_P_app.mpr ⟨p1.kept (fun k q hq => h3.2 q.1 (p1 k q hq).lt (zl_disM hap st (k := k) (Or.inl hq))), va_P_app.mpr ⟨h2, p3.kept (fun k q hq => h3.2 q.1 (p3 k q hq).lt (zl_disM hap st (k := 0) (Or.inr ?_)))⟩⟩⟩, h3.1, fun q a b => h3.2 q a (fun z => b (Or.inr (Or.inl z)))⟩, Lc, h4, fun q hq => Or.inr (Or.inl (h5 q hq))⟩
    have := List.mem_of_getElem? hq
    simpa using this
theorem zl_CT {α : Type} (hap : ∀ st, va_D (zl_as aC aM aO) (zl_w aC aM aO cC cM cO st)) {y : MethodName} {ws : List Cond} {rm : Room} {mc ms : Nat} {inj : α → Option Value} {xc : Nat → String} {av : List Value} (st : zl_S) {k : Option ((α ⊕ Nat) × zz_S)} (h : zz_CT (zc_V l D aC cC tb) y ws rm mc ms inj xc av st.1 k) : zz_CT (zl_V l D aC aM aO cC cM cO tb) y ws rm mc ms inj xc av st (zz_lf (fun s => ((s, st.2) : zl_S)) k) := by
  intro sz o hk
  obtain ⟨r, s1, e1, rfl⟩ := zz_lf_some hk
  have hM := h sz (r, s1) e1
  refine MetFree.mono hM ?_ (fun _ _ _ _ _ h => h) ?_
  · rintro a s0 ⟨h0, hz, hP, hK, hN⟩
    exact ⟨h0, hz, (va_P_app.mp hP).1, zl_KC hK, zl_sfC hN⟩
  · rintro a s0 oc t ⟨h0, hz, hP, hK, hN⟩ ⟨⟨h1, h2, h3⟩, h4, Lc, h5, h6⟩
    have hr := (va_P_app.mp hP).2
    refine ⟨⟨h1, va_P_app.mpr ⟨h2, hr.kept (fun k q hq => h3.2 q.1 (hr k q hq).lt (fun z => z.elim (zl_disC hap st hq) (fun z => ?_)))⟩, h3.1, fun q a b => h3.2 q a (fun z => b (z.imp Or.inl id))⟩, h4, Lc, h5, fun q hq => (h6 q hq).imp Or.inl id⟩
    have := (hr k q hq).lt
    omega
end ZLW
section ZCT
variable {σ : Type} {V : zz_V σ} {E : zz_E} {own : String} {cc : ByteArray} {nL F K : Nat} {Ts : List Cond} {ret : Option FieldType} {pc : Nat} {xc : Nat → String}
theorem zx_ct1 (h : zz_X V E own cc nL Ts F K ret) {a b hp ct n : Nat} {tl : List (Nat × Nat × Nat × Nat)} (hh : zz_hd E ((a, b, hp, ct) :: tl)) (h1 : a ≤ pc) (h2 : pc < b) (h0 : ct ≠ 0) (hlink : Cond.classLink own ct (xc n) ∈ Ts) (hcast : ∀ U, zz_sf V U → va_Nw (Cond.castable (xc n) (xc n)) U) : zz_ct V E own pc xc n hp := by
  obtain ⟨l, D, cl, tys, sf, as, w⟩ := V
  obtain ⟨p, e, R, s, m, args, below, meth, c, A, mc, ms⟩ := E
  obtain ⟨⟨hx, hb, hml, hown, hts⟩, hK, hN, ⟨hD, hsf⟩, hA, hlk, hret, hF, hKl⟩ := h
  intro hadm U f q cell hW hU hf hpc ho hcell hst hcls
  obtain ⟨x, xs, e1, e2, -⟩ := List.map_eq_cons_iff.mp hh
  cases e2
  subst hf
  have hs := hN s [] va_S.rf (State.WarmedH.refl s)
  have hpl : e.platform.magicAccessors = ({} : Platform).magicAccessors := by rw [hadm.platform]
  obtain ⟨vm', w1, w2⟩ := zx_F1 (t := xs) (x := x) (args := args) (cls := xc n) (name := xc n) hW ho hpl hcell hst hcls (by simp only [covers]; simp [hpc, h1, h2]) h0 (hts _ hlink) (va_Nw.use rfl (hcast s hs))
  exact ⟨vm', w1, by rw [e1]; exact w2⟩
theorem zx_ct2 (h : zz_X V E own cc nL Ts F K ret) {a b hp ct a1 b1 hp1 ct1 n n1 : Nat} {tl : List (Nat × Nat × Nat × Nat)} (hh : zz_hd E ((a1, b1, hp1, ct1) :: (a, b, hp, ct) :: tl)) (g1 : a1 ≤ pc) (g2 : pc < b1) (g0 : ct1 ≠ 0) (hlink1 : Cond.classLink own ct1 (xc n1) ∈ Ts) (hno : ∀ U, zz_sf V U → va_Nc (xc n) (xc n1) U) (h1 : a ≤ pc) (h2 : pc < b) (h0 : ct ≠ 0) (hlink : Cond.classLink own ct (xc n) ∈ Ts) (hcast : ∀ U, zz_sf V U → va_Nw (Cond.castable (xc n) (xc n)) U) : zz_ct V E own pc xc n hp := by
  obtain ⟨l, D, cl, tys, sf, as, w⟩ := V
  obtain ⟨p, e, R, s, m, args, below, meth, c, A, mc, ms⟩ := E
  obtain ⟨⟨hx, hb, hml, hown, hts⟩, hK, hN, ⟨hD, hsf⟩, hA, hlk, hret, hF, hKl⟩ := h
  intro hadm U f q cell hW hU hf hpc ho hcell hst hcls
  obtain ⟨y, ys, e1, e2, e3⟩ := List.map_eq_cons_iff.mp hh
  cases e2
  obtain ⟨x, xs, e4, e5, -⟩ := List.map_eq_cons_iff.mp e3
  cases e5
  subst hf
  have hs := hN s [] va_S.rf (State.WarmedH.refl s)
  have hpl : e.platform.magicAccessors = ({} : Platform).magicAccessors := by rw [hadm.platform]
  obtain ⟨vm', w1, w2⟩ := zx_FP (t := ys) (x := y) (args := args) (cls := xc n) (name := xc n1) (h := x.handlerPc) hW ho hpl hcell hst hcls (by simp only [covers]; simp [hpc, g1, g2]) g0 (hts _ hlink1) (hno s hs) (fun vm1 hW1 => by
    rw [e4]
    exact zx_F1 (U := U.setVm vm1) (t := xs) (x := x) (args := args) (cls := xc n) (name := xc n) hW1 ho hpl hcell hst hcls (by simp only [covers]; simp [hpc, h1, h2]) h0 (hts _ hlink) (va_Nw.use rfl (hcast s hs)))
  exact ⟨vm', w1, by rw [e1]; exact w2⟩
end ZCT
