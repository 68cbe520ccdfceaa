/-! pure states: numbers by field, arrays by number, references into a pool, arrays of longs -/
abbrev zz_S : Type := (Nat → Int32) × (Nat → Nat → Int32) × (Nat → Option Nat) × (Nat → Nat → Int64)
def zz_sg (st : zz_S) (k : Nat) : Int32 := st.1 k
def zz_sp (st : zz_S) (k : Nat) (v : Int32) : zz_S := (fun j => bif Nat.beq j k then v else st.1 j, st.2)
def zz_ag (st : zz_S) (a i : Nat) : Int32 := st.2.1 a i
def zz_ap (st : zz_S) (a i : Nat) (v : Int32) : zz_S := (st.1, fun b => bif Nat.beq b a then upd (st.2.1 a) i v else st.2.1 b, st.2.2)
def zz_qg (st : zz_S) (k : Nat) : Option Nat := st.2.2.1 k
def zz_qp (st : zz_S) (k : Nat) (v : Option Nat) : zz_S := (st.1, st.2.1, fun j => bif Nat.beq j k then v else st.2.2.1 j, st.2.2.2)
def zz_lg (st : zz_S) (a i : Nat) : Int64 := st.2.2.2 a i
def zz_lp (st : zz_S) (a i : Nat) (v : Int64) : zz_S := (st.1, st.2.1, st.2.2.1, fun b => bif Nat.beq b a then vp_updL (st.2.2.2 a) i v else st.2.2.2 b)
def zz_bd {α β σ : Type} (x : Option (α × σ)) (f : α → σ → Option (β × σ)) : Option (β × σ) := match x with
  | none => none
  | some a => f a.1 a.2
def zz_gd {β : Type} (b : Bool) (k : Option β) : Option β := bif b then k else none
def zz_nm {α β : Type} (e : α) (f : α → β) : β := f e
def zz_oc {β : Type} (x : Option Nat) (n : β) (f : Nat → β) : β := match x with
  | none => n
  | some t => f t
def zz_in (i : Int32) (n : Nat) : Bool := !(decide (i < 0)) && Nat.blt i.toNatClampNeg n
def zz_bo (x : Int32) : Bool := x == 0 || x == 1
def zz_bn (x : Int32) : Int32 := vp_nar .boolean x
def zz_rem (x y : Int32) : Int32 := x - x / y * y
def zz_max (x y : Int32) : Int32 := if x < y then y else x
def zz_rf (f : Nat → Nat) (x : Option Nat) : Value := va_rf (x.map f)
def zz_ji (r : Int32) : Option Value := some (.int r)
def zz_jv (_ : Unit) : Option Value := none
def zz_jq (f : Nat → Nat) (r : Option Nat) : Option Value := some (zz_rf f r)
theorem zz_blt {a b : Nat} (h : Nat.blt a b = true) : a < b := by
  simp [Nat.blt] at h
  omega
theorem zz_in_vp {i : Int32} {n : Nat} (h : zz_in i n = true) : vp_in i n := by
  unfold zz_in at h
  simp only [Bool.and_eq_true, Bool.not_eq_true', decide_eq_false_iff_not] at h
  intro q
  rcases q with q | q
  · exact h.1 q
  · have h2 : i.toNatClampNeg < n := zz_blt h.2
    omega
theorem zz_gd_some {β : Type} {b : Bool} {k : Option β} {o : β} (h : zz_gd b k = some o) : b = true ∧ k = some o := by
  cases b with
  | false => cases h
  | true => exact ⟨rfl, h⟩
theorem zz_bd_some {α β σ : Type} {x : Option (α × σ)} {f : α → σ → Option (β × σ)} {o : β × σ} (h : zz_bd x f = some o) : ∃ a s, x = some (a, s) ∧ f a s = some o := by
  cases x with
  | none => cases h
  | some a => exact ⟨a.1, a.2, rfl, h⟩
theorem zz_nrf (C : String) (f : Nat → Nat) (x : Option Nat) : narrow (.object C) (zz_rf f x) = zz_rf f x := by
  cases x <;> rfl
theorem zz_frf (C : String) (f : Nat → Nat) (x : Option Nat) : fits (.object C) (zz_rf f x) = true := by
  cases x <;> rfl
/-! locals: the first entry of a number counts -/
def zz_lu : List (Nat × Value) → Nat → Option Value
  | [], _ => none
  | q :: t, j => bif Nat.beq q.1 j then some q.2 else zz_lu t j
def zz_has (ls : Array Slot) (nL : Nat) (L : List (Nat × Value)) : Prop := ls.size = nL ∧ lv_wf ls ∧ ∀ (i : Nat) (v : Value), zz_lu L i = some v → ls[i]? = some (.val v) ∧ v.category = 1
theorem zz_lu_mem : ∀ (L : List (Nat × Value)) (i : Nat) (v : Value), zz_lu L i = some v → (i, v) ∈ L
  | [], _, _, h => by cases h
  | q :: t, i, v, h => by
    unfold zz_lu at h
    cases hb : Nat.beq q.1 i with
    | true =>
      rw [hb] at h
      have e1 : q.1 = i := Nat.eq_of_beq_eq_true hb
      have e2 : q.2 = v := Option.some.inj h
      rw [← e1, ← e2]
      exact List.mem_cons_self
    | false =>
      rw [hb] at h
      exact List.mem_cons_of_mem _ (zz_lu_mem t i v h)
theorem zz_has_of {ls : Array Slot} {nL : Nat} {L : List (Nat × Value)} (h : lv_has ls nL L) (hc : L.all (fun q => q.2.category == 1) = true) : zz_has ls nL L := by
  refine ⟨h.1, h.2.1, fun i v hv => ?_⟩
  have hm := zz_lu_mem L i v hv
  refine ⟨h.2.2 _ hm, ?_⟩
  have := List.all_eq_true.mp hc _ hm
  simpa using this
theorem zz_has_at {ls : Array Slot} {nL : Nat} {L : List (Nat × Value)} (h : zz_has ls nL L) {i : Nat} {v : Value} (hv : zz_lu L i = some v) : ls[i]? = some (.val v) := (h.2.2 i v hv).1
theorem zz_has_to {ls : Array Slot} {nL : Nat} {L : List (Nat × Value)} (h : zz_has ls nL L) : lv_has ls nL ((List.range nL).filterMap (fun i => (zz_lu L i).map (fun v => (i, v)))) := by
  refine ⟨h.1, h.2.1, fun q hq => ?_⟩
  obtain ⟨i, -, hi⟩ := List.mem_filterMap.mp hq
  cases hv : zz_lu L i with
  | none => rw [hv] at hi; cases hi
  | some v =>
    rw [hv] at hi
    cases hi
    exact (h.2.2 i v hv).1
theorem zz_has_store {ls ls' : Array Slot} {nL : Nat} {L : List (Nat × Value)} {i : Nat} {v : Value} (h : zz_has ls nL L) (hc : v.category = 1)
    (h' : lv_has ls' nL ((i, v) :: ((List.range nL).filterMap (fun i => (zz_lu L i).map (fun v => (i, v)))).filter (fun q => !(q.1 == i) && !(q.1 + 1 == i && q.2.category == 2)))) : zz_has ls' nL ((i, v) :: L) := by
  refine ⟨h'.1, h'.2.1, fun j w hw => ?_⟩
  unfold zz_lu at hw
  cases hb : Nat.beq i j with
  | true =>
    rw [show Nat.beq (i, v).1 j = true from hb] at hw
    have e1 : i = j := Nat.eq_of_beq_eq_true hb
    have e2 : v = w := Option.some.inj hw
    subst e1; subst e2
    exact ⟨h'.2.2 _ List.mem_cons_self, hc⟩
  | false =>
    rw [show Nat.beq (i, v).1 j = false from hb] at hw
    have hw : zz_lu L j = some w := hw
    obtain ⟨g1, g2⟩ := h.2.2 j w hw
    refine ⟨h'.2.2 (j, w) (List.mem_cons_of_mem _ (List.mem_filter.mpr ⟨List.mem_filterMap.mpr ⟨j, List.mem_range.mpr ?_, by rw [hw]; rfl⟩, ?_⟩)), g2⟩
    · have := (Array.getElem?_eq_some_iff.mp g1).1
      rw [h.1] at this
      exact this
    · have hne : ¬ j = i := fun q => by rw [q] at hb; rw [Nat.beq_refl] at hb; cases hb
      simp [hne, g2]
theorem zz_has_sub {ls : Array Slot} {nL : Nat} {L L' : List (Nat × Value)} (h : zz_has ls nL L) (hL : L'.map (fun q => zz_lu L q.1) = L'.map (fun q => some q.2)) : zz_has ls nL L' := by
  refine ⟨h.1, h.2.1, fun i v hv => h.2.2 i v ?_⟩
  have hm := zz_lu_mem L' i v hv
  have := List.map_inj_left.mp hL (i, v) hm
  exact this
/-! the fixed things of a side (V) and of an invocation (E) -/
abbrev zz_V (σ : Type) := Launch × va_G × List vw_C × List (ClassId × FieldType) × (State → Prop) × (Nat → Prop) × (σ → va_W)
abbrev zz_E := Program × Env × Room × State × MethodId × Array Value × List Frame × Method × Code × (Nat → Prop) × Nat × Nat
def zz_w {σ : Type} (V : zz_V σ) : σ → va_W := V.2.2.2.2.2.2
def zz_cl {σ : Type} (V : zz_V σ) : List vw_C := V.2.2.1
def zz_ty {σ : Type} (V : zz_V σ) : List (ClassId × FieldType) := V.2.2.2.1
def zz_sf {σ : Type} (V : zz_V σ) : State → Prop := V.2.2.2.2.1
def zz_as {σ : Type} (V : zz_V σ) : Nat → Prop := V.2.2.2.2.2.1
def zz_X {σ : Type} (V : zz_V σ) (E : zz_E) (own : String) (cc : ByteArray) (nL : Nat) (Ts : List Cond) (F K : Nat) (ret : Option FieldType) : Prop :=
  match V, E with
  | (_, D, cl, tys, sf, as, w), (p, _, R, s, m, args, _, meth, c, A, _, _) =>
    (p.tables.exec = Jvm.exec ∧ c.code = cc ∧ c.maxLocals = nL ∧ s.vm.findClass own = some m.cls ∧ ∀ q ∈ Ts, q.before args s = true) ∧ va_K D cl tys s ∧ (∀ (U : State) (lc : List Loc), va_S A s.heap U.heap lc → s.WarmedH U.vm → sf U) ∧ ((∀ st, va_D as (w st)) ∧ ∀ (u U : State) (lc : List Loc), sf u → va_S as u.heap U.heap lc → u.WarmedH U.vm → sf U) ∧ (∀ q, as q → A q) ∧ meth.locks = false ∧ meth.sig.returnType = ret ∧ F ≤ R.frames ∧ K ≤ R.locals
def zz_Z {σ α : Type} (V : zz_V σ) (E : zz_E) (nL cn sn : Nat) (inj : α × σ → State → Prop) (k : Option (α × σ)) (pc : Nat) (L : List (Nat × Value)) (stk : List Value) (st : σ) : Prop :=
  match V, E with
  | (l, D, cl, _, _, _, w), (p, e, R, s, m, args, below, meth, c, A, _, _) =>
    ∀ o : α × σ, k = some o → ∀ (H : Heap) (locs : List Loc) (ls : Array Slot), va_P D cl (w st) H → va_S A s.heap H locs → zz_has ls nL L →
      W p l e R s m args below meth c H locs cn sn (inj o) (F0 m pc ls stk)
def zz_q {σ α : Type} (V : zz_V σ) (E : zz_E) (inj : α → Option Value) (o : α × σ) : State → Prop :=
  match V, E with
  | (_, D, cl, _, _, _, w), (_, _, _, s, _, args, below, _, _, A, mc, ms) => MQ below (fun _ s0 oc t => (oc = .returned (inj o.1) ∧ va_P D cl (w o.2) t.heap) ∧ va_F A s0 t) args s mc ms A
def zz_ok {σ : Type} (V : zz_V σ) : Prop := (∀ st, va_D (zz_as V) (zz_w V st)) ∧ ∀ (u U : State) (lc : List Loc), zz_sf V u → va_S (zz_as V) u.heap U.heap lc → u.WarmedH U.vm → zz_sf V U
def zz_C {σ α : Type} (V : zz_V σ) (y : MethodName) (ws : List Cond) (rm : Room) (inj : α → Option Value) (av : List Value) (st : σ) (k : Option (α × σ)) : Prop :=
  match V with
  | (l, D, cl, tys, sf, as, w) => ∀ o : α × σ, k = some o → Met l y ws rm (va_Pc av (fun U => va_P D cl (w st) U.heap ∧ va_K D cl tys U ∧ sf U)) (fun _ s0 oc t => (oc = .returned (inj o.1) ∧ va_P D cl (w o.2) t.heap) ∧ va_F as s0 t) 0 0 as
theorem zz_met {σ α : Type} {V : zz_V σ} {y : MethodName} {Ts : List Cond} {rm : Room} {inj : α → Option Value} {av : List Value} {st : σ} {k : Option (α × σ)} {cc : ByteArray} {maxL : Nat} {ret : Option FieldType} {own : String}
    (hV : zz_ok V) (hy : plainName y.cls = true) (hown : y.cls = own) (hlen : (lg_sl av).length ≤ maxL) (hcat : (lv_args 0 av).all (fun q => q.2.category == 1) = true)
    (body : ∀ E, zz_X V E own cc maxL Ts rm.frames rm.locals ret → zz_Z V E maxL 0 0 (zz_q V E inj) k 0 (lv_args 0 av) [] st) : zz_C V y (Cond.code y cc maxL ret :: Ts) rm inj av st k := by
  obtain ⟨l, D, cl, tys, sf, as, w⟩ := V
  intro o hk
  refine Met.ofW (cc := cc) (maxL := maxL) (ret := ret) hy rfl ?_
  intro p e s m args below meth c s₁ B hml hv
  obtain ⟨rfl, hP, hK, hN⟩ := hv
  have hl := lv_entry av (n := maxL) hlen
  rw [lg_entry_eq]
  have hX : zz_X (l, D, cl, tys, sf, as, w) (p, e, (headSpec (Cond.code y cc maxL ret :: Ts) rm).room, s, m, av.toArray, below, meth, c, as, 0, 0) own cc maxL Ts rm.frames rm.locals ret :=
    ⟨⟨B.exec, B.bytes, hml, by rw [← hown]; exact findClass_of_methodNamed B.named, fun q hq => atoms_spec (ws := Cond.code y cc maxL ret :: Ts) B.pre q (List.mem_cons_of_mem _ hq)⟩, hK, fun U lc hS hW => hV.2 s U lc hN hS hW, hV, fun _ h => h, B.notSynchronized, B.returns, Nat.le_refl _, Nat.le_refl _⟩
  exact body _ hX o hk s.heap [] _ hP va_S.rf (zz_has_of hl hcat)
section ZZ
variable {σ α : Type} {V : zz_V σ} {E : zz_E} {own : String} {cc : ByteArray} {nL F K cn sn : Nat} {Ts : List Cond} {ret : Option FieldType} {inj : α × σ → State → Prop} {k k1 k2 : Option (α × σ)} {pc : Nat} {L : List (Nat × Value)} {stk : List Value} {st : σ}
theorem zz_none : zz_Z V E nL cn sn inj (none : Option (α × σ)) pc L stk st := by
  obtain ⟨l, D, cl, tys, sf, as, w⟩ := V
  obtain ⟨p, e, R, s, m, args, below, meth, c, A, mc, ms⟩ := E
  intro o hk
  cases hk
theorem zz_sub {L' : List (Nat × Value)} (z : zz_Z V E nL cn sn inj k pc L' stk st) (hL : L'.map (fun q => zz_lu L q.1) = L'.map (fun q => some q.2)) : zz_Z V E nL cn sn inj k pc L stk st := by
  obtain ⟨l, D, cl, tys, sf, as, w⟩ := V
  obtain ⟨p, e, R, s, m, args, below, meth, c, A, mc, ms⟩ := E
  intro o hk H locs ls hP hS hl
  exact z o hk H locs ls hP hS (zz_has_sub hl hL)
theorem zz_gd1 {b : Bool} (z : b = true → zz_Z V E nL cn sn inj k pc L stk st) : zz_Z V E nL cn sn inj (zz_gd b k) pc L stk st := by
  obtain ⟨l, D, cl, tys, sf, as, w⟩ := V
  obtain ⟨p, e, R, s, m, args, below, meth, c, A, mc, ms⟩ := E
  intro o hk
  obtain ⟨hb, hk⟩ := zz_gd_some hk
  exact z hb o hk
theorem zz_ite {c : Prop} {ic : Decidable c} (z1 : c → zz_Z V E nL cn sn inj k1 pc L stk st) (z2 : ¬ c → zz_Z V E nL cn sn inj k2 pc L stk st) : zz_Z V E nL cn sn inj (@ite _ c ic k1 k2) pc L stk st := by
  by_cases h : c
  · rw [if_pos h]; exact z1 h
  · rw [if_neg h]; exact z2 h
theorem zz_name {β : Type} {x : β} {f : β → Option (α × σ)} (z : zz_Z V E nL cn sn inj (f x) pc L stk st) : zz_Z V E nL cn sn inj (zz_nm x f) pc L stk st := z
theorem zz_topi {x : Int32} {f : Int32 → Option (α × σ)} (z : ∀ y : Int32, zz_Z V E nL cn sn inj (f y) pc L (.int y :: stk) st) : zz_Z V E nL cn sn inj (zz_nm x f) pc L (.int x :: stk) st := z x
theorem zz_top2 {x : Int32} {v : Value} {f : Int32 → Option (α × σ)} (z : ∀ y : Int32, zz_Z V E nL cn sn inj (f y) pc L (v :: .int y :: stk) st) : zz_Z V E nL cn sn inj (zz_nm x f) pc L (v :: .int x :: stk) st := z x
theorem zz_topt {t : Nat} {g : Nat → Value} {f : Nat → Option (α × σ)} (z : ∀ y : Nat, zz_Z V E nL cn sn inj (f y) pc L (g y :: stk) st) : zz_Z V E nL cn sn inj (zz_nm t f) pc L (g t :: stk) st := z t
theorem zz_iconst (h : zz_X V E own cc nL Ts F K ret) {n : Int} {v : Int32} (d : decode cc pc = .ok (.iconst n, 1)) (hv : Int32.ofInt n = v) (z : zz_Z V E nL cn sn inj k (pc + 1) L (.int v :: stk) st) : zz_Z V E nL cn sn inj k pc L stk st := by
  obtain ⟨l, D, cl, tys, sf, as, w⟩ := V
  obtain ⟨p, e, R, s, m, args, below, meth, c, A, mc, ms⟩ := E
  obtain ⟨⟨hx, hb, hml, hown, hts⟩, hK, hN, ⟨hD, hsf⟩, hA, hlk, hret, hF, hKl⟩ := h
  intro o hk H locs ls hP hS hl
  exact lv_iconst hx hb d hv (z o hk H locs ls hP hS hl)
theorem zz_bipush (h : zz_X V E own cc nL Ts F K ret) {n : Int} {v : Int32} (d : decode cc pc = .ok (.bipush n, 2)) (hv : (Int8.ofInt n).toInt32 = v) (z : zz_Z V E nL cn sn inj k (pc + 2) L (.int v :: stk) st) : zz_Z V E nL cn sn inj k pc L stk st := by
  obtain ⟨l, D, cl, tys, sf, as, w⟩ := V
  obtain ⟨p, e, R, s, m, args, below, meth, c, A, mc, ms⟩ := E
  obtain ⟨⟨hx, hb, hml, hown, hts⟩, hK, hN, ⟨hD, hsf⟩, hA, hlk, hret, hF, hKl⟩ := h
  intro o hk H locs ls hP hS hl
  exact lv_bipush hx hb d hv (z o hk H locs ls hP hS hl)
theorem zz_sipush (h : zz_X V E own cc nL Ts F K ret) {n : Int} {v : Int32} (d : decode cc pc = .ok (.sipush n, 3)) (hv : (Int16.ofInt n).toInt32 = v) (z : zz_Z V E nL cn sn inj k (pc + 3) L (.int v :: stk) st) : zz_Z V E nL cn sn inj k pc L stk st := by
  obtain ⟨l, D, cl, tys, sf, as, w⟩ := V
  obtain ⟨p, e, R, s, m, args, below, meth, c, A, mc, ms⟩ := E
  obtain ⟨⟨hx, hb, hml, hown, hts⟩, hK, hN, ⟨hD, hsf⟩, hA, hlk, hret, hF, hKl⟩ := h
  intro o hk H locs ls hP hS hl
  exact lv_sipush hx hb d hv (z o hk H locs ls hP hS hl)
theorem zz_lconst (h : zz_X V E own cc nL Ts F K ret) {n : Fin 2} {v : Int64} (d : decode cc pc = .ok (.lconst n, 1)) (hv : Int64.ofNat (n : Nat) = v) (z : zz_Z V E nL cn sn inj k (pc + 1) L (.long v :: stk) st) : zz_Z V E nL cn sn inj k pc L stk st := by
  obtain ⟨l, D, cl, tys, sf, as, w⟩ := V
  obtain ⟨p, e, R, s, m, args, below, meth, c, A, mc, ms⟩ := E
  obtain ⟨⟨hx, hb, hml, hown, hts⟩, hK, hN, ⟨hD, hsf⟩, hA, hlk, hret, hF, hKl⟩ := h
  intro o hk H locs ls hP hS hl
  exact lv_lconst hx hb d hv (z o hk H locs ls hP hS hl)
theorem zz_ldc (h : zz_X V E own cc nL Ts F K ret) {index : Nat} {v : Int32} (d : decode cc pc = .ok (.ldc index, 2)) (hv : Cond.constant own index v ∈ Ts) (z : zz_Z V E nL cn sn inj k (pc + 2) L (.int v :: stk) st) : zz_Z V E nL cn sn inj k pc L stk st := by
  obtain ⟨l, D, cl, tys, sf, as, w⟩ := V
  obtain ⟨p, e, R, s, m, args, below, meth, c, A, mc, ms⟩ := E
  obtain ⟨⟨hx, hb, hml, hown, hts⟩, hK, hN, ⟨hD, hsf⟩, hA, hlk, hret, hF, hKl⟩ := h
  intro o hk H locs ls hP hS hl
  exact lv_ldc hx hb hown (hts _ hv) d (z o hk H locs ls hP hS hl)
theorem zz_null (h : zz_X V E own cc nL Ts F K ret) (d : decode cc pc = .ok (.aconst_null, 1)) (z : zz_Z V E nL cn sn inj k (pc + 1) L (.null :: stk) st) : zz_Z V E nL cn sn inj k pc L stk st := by
  obtain ⟨l, D, cl, tys, sf, as, w⟩ := V
  obtain ⟨p, e, R, s, m, args, below, meth, c, A, mc, ms⟩ := E
  obtain ⟨⟨hx, hb, hml, hown, hts⟩, hK, hN, ⟨hD, hsf⟩, hA, hlk, hret, hF, hKl⟩ := h
  intro o hk H locs ls hP hS hl
  exact lv_null hx hb d (z o hk H locs ls hP hS hl)
theorem zz_iload_n (h : zz_X V E own cc nL Ts F K ret) {j : Fin 4} {x : Int32} (d : decode cc pc = .ok (.iload_n j, 1)) (hv : zz_lu L (j : Nat) = some (.int x)) (z : zz_Z V E nL cn sn inj k (pc + 1) L (.int x :: stk) st) : zz_Z V E nL cn sn inj k pc L stk st := by
  obtain ⟨l, D, cl, tys, sf, as, w⟩ := V
  obtain ⟨p, e, R, s, m, args, below, meth, c, A, mc, ms⟩ := E
  obtain ⟨⟨hx, hb, hml, hown, hts⟩, hK, hN, ⟨hD, hsf⟩, hA, hlk, hret, hF, hKl⟩ := h
  intro o hk H locs ls hP hS hl
  exact lv_iload_n hx hb d rfl (zz_has_at hl hv) (z o hk H locs ls hP hS hl)
theorem zz_iload (h : zz_X V E own cc nL Ts F K ret) {j : Nat} {x : Int32} (d : decode cc pc = .ok (.iload j, 2)) (hv : zz_lu L j = some (.int x)) (z : zz_Z V E nL cn sn inj k (pc + 2) L (.int x :: stk) st) : zz_Z V E nL cn sn inj k pc L stk st := by
  obtain ⟨l, D, cl, tys, sf, as, w⟩ := V
  obtain ⟨p, e, R, s, m, args, below, meth, c, A, mc, ms⟩ := E
  obtain ⟨⟨hx, hb, hml, hown, hts⟩, hK, hN, ⟨hD, hsf⟩, hA, hlk, hret, hF, hKl⟩ := h
  intro o hk H locs ls hP hS hl
  exact lv_iload hx hb d (zz_has_at hl hv) (z o hk H locs ls hP hS hl)
theorem zz_aload_n (h : zz_X V E own cc nL Ts F K ret) {j : Fin 4} {x : Nat} (d : decode cc pc = .ok (.aload_n j, 1)) (hv : zz_lu L (j : Nat) = some (.ref x)) (z : zz_Z V E nL cn sn inj k (pc + 1) L (.ref x :: stk) st) : zz_Z V E nL cn sn inj k pc L stk st := by
  obtain ⟨l, D, cl, tys, sf, as, w⟩ := V
  obtain ⟨p, e, R, s, m, args, below, meth, c, A, mc, ms⟩ := E
  obtain ⟨⟨hx, hb, hml, hown, hts⟩, hK, hN, ⟨hD, hsf⟩, hA, hlk, hret, hF, hKl⟩ := h
  intro o hk H locs ls hP hS hl
  exact lv_aload_n hx hb d rfl (zz_has_at hl hv) (z o hk H locs ls hP hS hl)
theorem zz_aload (h : zz_X V E own cc nL Ts F K ret) {j : Nat} {x : Nat} (d : decode cc pc = .ok (.aload j, 2)) (hv : zz_lu L j = some (.ref x)) (z : zz_Z V E nL cn sn inj k (pc + 2) L (.ref x :: stk) st) : zz_Z V E nL cn sn inj k pc L stk st := by
  obtain ⟨l, D, cl, tys, sf, as, w⟩ := V
  obtain ⟨p, e, R, s, m, args, below, meth, c, A, mc, ms⟩ := E
  obtain ⟨⟨hx, hb, hml, hown, hts⟩, hK, hN, ⟨hD, hsf⟩, hA, hlk, hret, hF, hKl⟩ := h
  intro o hk H locs ls hP hS hl
  exact lv_aload hx hb d (zz_has_at hl hv) (z o hk H locs ls hP hS hl)
theorem zz_aload_nN (h : zz_X V E own cc nL Ts F K ret) {j : Fin 4} (d : decode cc pc = .ok (.aload_n j, 1)) (hv : zz_lu L (j : Nat) = some .null) (z : zz_Z V E nL cn sn inj k (pc + 1) L (.null :: stk) st) : zz_Z V E nL cn sn inj k pc L stk st := by
  obtain ⟨l, D, cl, tys, sf, as, w⟩ := V
  obtain ⟨p, e, R, s, m, args, below, meth, c, A, mc, ms⟩ := E
  obtain ⟨⟨hx, hb, hml, hown, hts⟩, hK, hN, ⟨hD, hsf⟩, hA, hlk, hret, hF, hKl⟩ := h
  intro o hk H locs ls hP hS hl
  exact lv_aload_nN hx hb d rfl (zz_has_at hl hv) (z o hk H locs ls hP hS hl)
theorem zz_aloadN (h : zz_X V E own cc nL Ts F K ret) {j : Nat} (d : decode cc pc = .ok (.aload j, 2)) (hv : zz_lu L j = some .null) (z : zz_Z V E nL cn sn inj k (pc + 2) L (.null :: stk) st) : zz_Z V E nL cn sn inj k pc L stk st := by
  obtain ⟨l, D, cl, tys, sf, as, w⟩ := V
  obtain ⟨p, e, R, s, m, args, below, meth, c, A, mc, ms⟩ := E
  obtain ⟨⟨hx, hb, hml, hown, hts⟩, hK, hN, ⟨hD, hsf⟩, hA, hlk, hret, hF, hKl⟩ := h
  intro o hk H locs ls hP hS hl
  exact lv_aloadN hx hb d (zz_has_at hl hv) (z o hk H locs ls hP hS hl)
theorem zz_aload_nq (h : zz_X V E own cc nL Ts F K ret) {j : Fin 4} {f : Nat → Nat} {x : Option Nat} (d : decode cc pc = .ok (.aload_n j, 1)) (hv : zz_lu L (j : Nat) = some (zz_rf f x)) (z : zz_Z V E nL cn sn inj k (pc + 1) L (zz_rf f x :: stk) st) : zz_Z V E nL cn sn inj k pc L stk st := by
  obtain ⟨l, D, cl, tys, sf, as, w⟩ := V
  obtain ⟨p, e, R, s, m, args, below, meth, c, A, mc, ms⟩ := E
  obtain ⟨⟨hx, hb, hml, hown, hts⟩, hK, hN, ⟨hD, hsf⟩, hA, hlk, hret, hF, hKl⟩ := h
  intro o hk H locs ls hP hS hl
  cases x with
  | none => exact lv_aload_nN hx hb d rfl (zz_has_at hl hv) (z o hk H locs ls hP hS hl)
  | some t => exact lv_aload_n hx hb d rfl (zz_has_at hl hv) (z o hk H locs ls hP hS hl)
theorem zz_aloadq (h : zz_X V E own cc nL Ts F K ret) {j : Nat} {f : Nat → Nat} {x : Option Nat} (d : decode cc pc = .ok (.aload j, 2)) (hv : zz_lu L j = some (zz_rf f x)) (z : zz_Z V E nL cn sn inj k (pc + 2) L (zz_rf f x :: stk) st) : zz_Z V E nL cn sn inj k pc L stk st := by
  obtain ⟨l, D, cl, tys, sf, as, w⟩ := V
  obtain ⟨p, e, R, s, m, args, below, meth, c, A, mc, ms⟩ := E
  obtain ⟨⟨hx, hb, hml, hown, hts⟩, hK, hN, ⟨hD, hsf⟩, hA, hlk, hret, hF, hKl⟩ := h
  intro o hk H locs ls hP hS hl
  cases x with
  | none => exact lv_aloadN hx hb d (zz_has_at hl hv) (z o hk H locs ls hP hS hl)
  | some t => exact lv_aload hx hb d (zz_has_at hl hv) (z o hk H locs ls hP hS hl)
theorem zz_istore_n (h : zz_X V E own cc nL Ts F K ret) {j : Fin 4} {x : Int32} (d : decode cc pc = .ok (.istore_n j, 1)) (hn : (j : Nat) < nL) (z : zz_Z V E nL cn sn inj k (pc + 1) (((j : Nat), .int x) :: L) stk st) : zz_Z V E nL cn sn inj k pc L (.int x :: stk) st := by
  obtain ⟨l, D, cl, tys, sf, as, w⟩ := V
  obtain ⟨p, e, R, s, m, args, below, meth, c, A, mc, ms⟩ := E
  obtain ⟨⟨hx, hb, hml, hown, hts⟩, hK, hN, ⟨hD, hsf⟩, hA, hlk, hret, hF, hKl⟩ := h
  intro o hk H locs ls hP hS hl
  exact lv_istore_n hx hb d rfl (zz_has_to hl) hn rfl (fun ls' hl' => z o hk H locs ls' hP hS (zz_has_store hl rfl hl'))
theorem zz_istore (h : zz_X V E own cc nL Ts F K ret) {j : Nat} {x : Int32} (d : decode cc pc = .ok (.istore j, 2)) (hn : j < nL) (z : zz_Z V E nL cn sn inj k (pc + 2) ((j, .int x) :: L) stk st) : zz_Z V E nL cn sn inj k pc L (.int x :: stk) st := by
  obtain ⟨l, D, cl, tys, sf, as, w⟩ := V
  obtain ⟨p, e, R, s, m, args, below, meth, c, A, mc, ms⟩ := E
  obtain ⟨⟨hx, hb, hml, hown, hts⟩, hK, hN, ⟨hD, hsf⟩, hA, hlk, hret, hF, hKl⟩ := h
  intro o hk H locs ls hP hS hl
  exact lv_istore hx hb d (zz_has_to hl) hn rfl (fun ls' hl' => z o hk H locs ls' hP hS (zz_has_store hl rfl hl'))
theorem zz_astore_n (h : zz_X V E own cc nL Ts F K ret) {j : Fin 4} {x : Nat} (d : decode cc pc = .ok (.astore_n j, 1)) (hn : (j : Nat) < nL) (z : zz_Z V E nL cn sn inj k (pc + 1) (((j : Nat), .ref x) :: L) stk st) : zz_Z V E nL cn sn inj k pc L (.ref x :: stk) st := by
  obtain ⟨l, D, cl, tys, sf, as, w⟩ := V
  obtain ⟨p, e, R, s, m, args, below, meth, c, A, mc, ms⟩ := E
  obtain ⟨⟨hx, hb, hml, hown, hts⟩, hK, hN, ⟨hD, hsf⟩, hA, hlk, hret, hF, hKl⟩ := h
  intro o hk H locs ls hP hS hl
  exact lv_astore_n hx hb d rfl (zz_has_to hl) hn rfl (fun ls' hl' => z o hk H locs ls' hP hS (zz_has_store hl rfl hl'))
theorem zz_astore (h : zz_X V E own cc nL Ts F K ret) {j : Nat} {x : Nat} (d : decode cc pc = .ok (.astore j, 2)) (hn : j < nL) (z : zz_Z V E nL cn sn inj k (pc + 2) ((j, .ref x) :: L) stk st) : zz_Z V E nL cn sn inj k pc L (.ref x :: stk) st := by
  obtain ⟨l, D, cl, tys, sf, as, w⟩ := V
  obtain ⟨p, e, R, s, m, args, below, meth, c, A, mc, ms⟩ := E
  obtain ⟨⟨hx, hb, hml, hown, hts⟩, hK, hN, ⟨hD, hsf⟩, hA, hlk, hret, hF, hKl⟩ := h
  intro o hk H locs ls hP hS hl
  exact lv_astore hx hb d (zz_has_to hl) hn rfl (fun ls' hl' => z o hk H locs ls' hP hS (zz_has_store hl rfl hl'))
theorem zz_astore_nN (h : zz_X V E own cc nL Ts F K ret) {j : Fin 4}  (d : decode cc pc = .ok (.astore_n j, 1)) (hn : (j : Nat) < nL) (z : zz_Z V E nL cn sn inj k (pc + 1) (((j : Nat), .null) :: L) stk st) : zz_Z V E nL cn sn inj k pc L (.null :: stk) st := by
  obtain ⟨l, D, cl, tys, sf, as, w⟩ := V
  obtain ⟨p, e, R, s, m, args, below, meth, c, A, mc, ms⟩ := E
  obtain ⟨⟨hx, hb, hml, hown, hts⟩, hK, hN, ⟨hD, hsf⟩, hA, hlk, hret, hF, hKl⟩ := h
  intro o hk H locs ls hP hS hl
  exact lv_astore_nN hx hb d rfl (zz_has_to hl) hn rfl (fun ls' hl' => z o hk H locs ls' hP hS (zz_has_store hl rfl hl'))
theorem zz_astoreN (h : zz_X V E own cc nL Ts F K ret) {j : Nat}  (d : decode cc pc = .ok (.astore j, 2)) (hn : j < nL) (z : zz_Z V E nL cn sn inj k (pc + 2) ((j, .null) :: L) stk st) : zz_Z V E nL cn sn inj k pc L (.null :: stk) st := by
  obtain ⟨l, D, cl, tys, sf, as, w⟩ := V
  obtain ⟨p, e, R, s, m, args, below, meth, c, A, mc, ms⟩ := E
  obtain ⟨⟨hx, hb, hml, hown, hts⟩, hK, hN, ⟨hD, hsf⟩, hA, hlk, hret, hF, hKl⟩ := h
  intro o hk H locs ls hP hS hl
  exact lv_astoreN hx hb d (zz_has_to hl) hn rfl (fun ls' hl' => z o hk H locs ls' hP hS (zz_has_store hl rfl hl'))
theorem zz_astore_nq (h : zz_X V E own cc nL Ts F K ret) {j : Fin 4} {f : Nat → Nat} {x : Option Nat} (d : decode cc pc = .ok (.astore_n j, 1)) (hn : (j : Nat) < nL) (z : zz_Z V E nL cn sn inj k (pc + 1) (((j : Nat), zz_rf f x) :: L) stk st) : zz_Z V E nL cn sn inj k pc L (zz_rf f x :: stk) st := by
  cases x with
  | none => exact zz_astore_nN h d hn z
  | some t => exact zz_astore_n h d hn z
theorem zz_astoreq (h : zz_X V E own cc nL Ts F K ret) {j : Nat} {f : Nat → Nat} {x : Option Nat} (d : decode cc pc = .ok (.astore j, 2)) (hn : j < nL) (z : zz_Z V E nL cn sn inj k (pc + 2) ((j, zz_rf f x) :: L) stk st) : zz_Z V E nL cn sn inj k pc L (zz_rf f x :: stk) st := by
  cases x with
  | none => exact zz_astoreN h d hn z
  | some t => exact zz_astore h d hn z
theorem zz_iinc (h : zz_X V E own cc nL Ts F K ret) {j : Nat} {n : Int} {x : Int32} (v : Int32) (d : decode cc pc = .ok (.iinc j n, 3)) (hc : Int32.ofInt n = v) (hv : zz_lu L j = some (.int x)) (hn : j < nL) (z : zz_Z V E nL cn sn inj k (pc + 3) ((j, .int (x + v)) :: L) stk st) : zz_Z V E nL cn sn inj k pc L stk st := by
  obtain ⟨l, D, cl, tys, sf, as, w⟩ := V
  obtain ⟨p, e, R, s, m, args, below, meth, c, A, mc, ms⟩ := E
  obtain ⟨⟨hx, hb, hml, hown, hts⟩, hK, hN, ⟨hD, hsf⟩, hA, hlk, hret, hF, hKl⟩ := h
  intro o hk H locs ls hP hS hl
  subst hc
  have hj : j < ls.size := by rw [hl.1]; exact hn
  have hm : (j, Value.int x) ∈ (List.range nL).filterMap (fun i => (zz_lu L i).map (fun v => (i, v))) := List.mem_filterMap.mpr ⟨j, List.mem_range.mpr hn, by rw [hv]; rfl⟩
  obtain ⟨i, hi⟩ := List.getElem?_of_mem hm
  exact lv_iinc hx hb d (zz_has_to hl) hi rfl hn rfl (fun ls' hl' => z o hk H locs ls' hP hS (zz_has_store hl rfl hl'))
theorem zz_iadd (h : zz_X V E own cc nL Ts F K ret) {x y : Int32} (d : decode cc pc = .ok (.iadd, 1)) (z : zz_Z V E nL cn sn inj k (pc + 1) L (.int (x + y) :: stk) st) : zz_Z V E nL cn sn inj k pc L (.int y :: .int x :: stk) st := by
  obtain ⟨l, D, cl, tys, sf, as, w⟩ := V
  obtain ⟨p, e, R, s, m, args, below, meth, c, A, mc, ms⟩ := E
  obtain ⟨⟨hx, hb, hml, hown, hts⟩, hK, hN, ⟨hD, hsf⟩, hA, hlk, hret, hF, hKl⟩ := h
  intro o hk H locs ls hP hS hl
  exact lv_iadd hx hb d (z o hk H locs ls hP hS hl)
theorem zz_isub (h : zz_X V E own cc nL Ts F K ret) {x y : Int32} (d : decode cc pc = .ok (.isub, 1)) (z : zz_Z V E nL cn sn inj k (pc + 1) L (.int (x - y) :: stk) st) : zz_Z V E nL cn sn inj k pc L (.int y :: .int x :: stk) st := by
  obtain ⟨l, D, cl, tys, sf, as, w⟩ := V
  obtain ⟨p, e, R, s, m, args, below, meth, c, A, mc, ms⟩ := E
  obtain ⟨⟨hx, hb, hml, hown, hts⟩, hK, hN, ⟨hD, hsf⟩, hA, hlk, hret, hF, hKl⟩ := h
  intro o hk H locs ls hP hS hl
  exact lv_isub hx hb d (z o hk H locs ls hP hS hl)
theorem zz_imul (h : zz_X V E own cc nL Ts F K ret) {x y : Int32} (d : decode cc pc = .ok (.imul, 1)) (z : zz_Z V E nL cn sn inj k (pc + 1) L (.int (x * y) :: stk) st) : zz_Z V E nL cn sn inj k pc L (.int y :: .int x :: stk) st := by
  obtain ⟨l, D, cl, tys, sf, as, w⟩ := V
  obtain ⟨p, e, R, s, m, args, below, meth, c, A, mc, ms⟩ := E
  obtain ⟨⟨hx, hb, hml, hown, hts⟩, hK, hN, ⟨hD, hsf⟩, hA, hlk, hret, hF, hKl⟩ := h
  intro o hk H locs ls hP hS hl
  exact lv_imul hx hb d (z o hk H locs ls hP hS hl)
theorem zz_iand (h : zz_X V E own cc nL Ts F K ret) {x y : Int32} (d : decode cc pc = .ok (.iand, 1)) (z : zz_Z V E nL cn sn inj k (pc + 1) L (.int (x &&& y) :: stk) st) : zz_Z V E nL cn sn inj k pc L (.int y :: .int x :: stk) st := by
  obtain ⟨l, D, cl, tys, sf, as, w⟩ := V
  obtain ⟨p, e, R, s, m, args, below, meth, c, A, mc, ms⟩ := E
  obtain ⟨⟨hx, hb, hml, hown, hts⟩, hK, hN, ⟨hD, hsf⟩, hA, hlk, hret, hF, hKl⟩ := h
  intro o hk H locs ls hP hS hl
  exact lv_iand hx hb d (z o hk H locs ls hP hS hl)
theorem zz_ior (h : zz_X V E own cc nL Ts F K ret) {x y : Int32} (d : decode cc pc = .ok (.ior, 1)) (z : zz_Z V E nL cn sn inj k (pc + 1) L (.int (x ||| y) :: stk) st) : zz_Z V E nL cn sn inj k pc L (.int y :: .int x :: stk) st := by
  obtain ⟨l, D, cl, tys, sf, as, w⟩ := V
  obtain ⟨p, e, R, s, m, args, below, meth, c, A, mc, ms⟩ := E
  obtain ⟨⟨hx, hb, hml, hown, hts⟩, hK, hN, ⟨hD, hsf⟩, hA, hlk, hret, hF, hKl⟩ := h
  intro o hk H locs ls hP hS hl
  exact lv_ior hx hb d (z o hk H locs ls hP hS hl)
theorem zz_ixor (h : zz_X V E own cc nL Ts F K ret) {x y : Int32} (d : decode cc pc = .ok (.ixor, 1)) (z : zz_Z V E nL cn sn inj k (pc + 1) L (.int (x ^^^ y) :: stk) st) : zz_Z V E nL cn sn inj k pc L (.int y :: .int x :: stk) st := by
  obtain ⟨l, D, cl, tys, sf, as, w⟩ := V
  obtain ⟨p, e, R, s, m, args, below, meth, c, A, mc, ms⟩ := E
  obtain ⟨⟨hx, hb, hml, hown, hts⟩, hK, hN, ⟨hD, hsf⟩, hA, hlk, hret, hF, hKl⟩ := h
  intro o hk H locs ls hP hS hl
  exact lv_ixor hx hb d (z o hk H locs ls hP hS hl)
theorem zz_ishl (h : zz_X V E own cc nL Ts F K ret) {x y : Int32} (d : decode cc pc = .ok (.ishl, 1)) (z : zz_Z V E nL cn sn inj k (pc + 1) L (.int (x <<< (y &&& 31)) :: stk) st) : zz_Z V E nL cn sn inj k pc L (.int y :: .int x :: stk) st := by
  obtain ⟨l, D, cl, tys, sf, as, w⟩ := V
  obtain ⟨p, e, R, s, m, args, below, meth, c, A, mc, ms⟩ := E
  obtain ⟨⟨hx, hb, hml, hown, hts⟩, hK, hN, ⟨hD, hsf⟩, hA, hlk, hret, hF, hKl⟩ := h
  intro o hk H locs ls hP hS hl
  exact lv_ishl hx hb d (z o hk H locs ls hP hS hl)
theorem zz_ishr (h : zz_X V E own cc nL Ts F K ret) {x y : Int32} (d : decode cc pc = .ok (.ishr, 1)) (z : zz_Z V E nL cn sn inj k (pc + 1) L (.int (x >>> (y &&& 31)) :: stk) st) : zz_Z V E nL cn sn inj k pc L (.int y :: .int x :: stk) st := by
  obtain ⟨l, D, cl, tys, sf, as, w⟩ := V
  obtain ⟨p, e, R, s, m, args, below, meth, c, A, mc, ms⟩ := E
  obtain ⟨⟨hx, hb, hml, hown, hts⟩, hK, hN, ⟨hD, hsf⟩, hA, hlk, hret, hF, hKl⟩ := h
  intro o hk H locs ls hP hS hl
  exact lv_ishr hx hb d (z o hk H locs ls hP hS hl)
theorem zz_ineg (h : zz_X V E own cc nL Ts F K ret) {x : Int32} (d : decode cc pc = .ok (.ineg, 1)) (z : zz_Z V E nL cn sn inj k (pc + 1) L (.int (-x) :: stk) st) : zz_Z V E nL cn sn inj k pc L (.int x :: stk) st := by
  obtain ⟨l, D, cl, tys, sf, as, w⟩ := V
  obtain ⟨p, e, R, s, m, args, below, meth, c, A, mc, ms⟩ := E
  obtain ⟨⟨hx, hb, hml, hown, hts⟩, hK, hN, ⟨hD, hsf⟩, hA, hlk, hret, hF, hKl⟩ := h
  intro o hk H locs ls hP hS hl
  exact lv_ineg hx hb d (z o hk H locs ls hP hS hl)
theorem zz_ladd (h : zz_X V E own cc nL Ts F K ret) {x y : Int64} (d : decode cc pc = .ok (.ladd, 1)) (z : zz_Z V E nL cn sn inj k (pc + 1) L (.long (x + y) :: stk) st) : zz_Z V E nL cn sn inj k pc L (.long y :: .long x :: stk) st := by
  obtain ⟨l, D, cl, tys, sf, as, w⟩ := V
  obtain ⟨p, e, R, s, m, args, below, meth, c, A, mc, ms⟩ := E
  obtain ⟨⟨hx, hb, hml, hown, hts⟩, hK, hN, ⟨hD, hsf⟩, hA, hlk, hret, hF, hKl⟩ := h
  intro o hk H locs ls hP hS hl
  exact lv_ladd hx hb d (z o hk H locs ls hP hS hl)
theorem zz_lcmp (h : zz_X V E own cc nL Ts F K ret) {x y : Int64} (d : decode cc pc = .ok (.lcmp, 1)) (z : zz_Z V E nL cn sn inj k (pc + 1) L (.int (lg_cmp x y) :: stk) st) : zz_Z V E nL cn sn inj k pc L (.long y :: .long x :: stk) st := by
  obtain ⟨l, D, cl, tys, sf, as, w⟩ := V
  obtain ⟨p, e, R, s, m, args, below, meth, c, A, mc, ms⟩ := E
  obtain ⟨⟨hx, hb, hml, hown, hts⟩, hK, hN, ⟨hD, hsf⟩, hA, hlk, hret, hF, hKl⟩ := h
  intro o hk H locs ls hP hS hl
  exact W.lcmp hx hb d (z o hk H locs ls hP hS hl)
theorem zz_i2l (h : zz_X V E own cc nL Ts F K ret) {x : Int32} (d : decode cc pc = .ok (.i2l, 1)) (z : zz_Z V E nL cn sn inj k (pc + 1) L (.long x.toInt64 :: stk) st) : zz_Z V E nL cn sn inj k pc L (.int x :: stk) st := by
  obtain ⟨l, D, cl, tys, sf, as, w⟩ := V
  obtain ⟨p, e, R, s, m, args, below, meth, c, A, mc, ms⟩ := E
  obtain ⟨⟨hx, hb, hml, hown, hts⟩, hK, hN, ⟨hD, hsf⟩, hA, hlk, hret, hF, hKl⟩ := h
  intro o hk H locs ls hP hS hl
  exact lv_i2l hx hb d rfl (z o hk H locs ls hP hS hl)
theorem zz_i2b (h : zz_X V E own cc nL Ts F K ret) {x : Int32} (d : decode cc pc = .ok (.i2b, 1)) (z : zz_Z V E nL cn sn inj k (pc + 1) L (.int x.toInt8.toInt32 :: stk) st) : zz_Z V E nL cn sn inj k pc L (.int x :: stk) st := by
  obtain ⟨l, D, cl, tys, sf, as, w⟩ := V
  obtain ⟨p, e, R, s, m, args, below, meth, c, A, mc, ms⟩ := E
  obtain ⟨⟨hx, hb, hml, hown, hts⟩, hK, hN, ⟨hD, hsf⟩, hA, hlk, hret, hF, hKl⟩ := h
  intro o hk H locs ls hP hS hl
  exact lv_i2b hx hb d rfl (z o hk H locs ls hP hS hl)
theorem zz_i2s (h : zz_X V E own cc nL Ts F K ret) {x : Int32} (d : decode cc pc = .ok (.i2s, 1)) (z : zz_Z V E nL cn sn inj k (pc + 1) L (.int x.toInt16.toInt32 :: stk) st) : zz_Z V E nL cn sn inj k pc L (.int x :: stk) st := by
  obtain ⟨l, D, cl, tys, sf, as, w⟩ := V
  obtain ⟨p, e, R, s, m, args, below, meth, c, A, mc, ms⟩ := E
  obtain ⟨⟨hx, hb, hml, hown, hts⟩, hK, hN, ⟨hD, hsf⟩, hA, hlk, hret, hF, hKl⟩ := h
  intro o hk H locs ls hP hS hl
  exact lv_i2s hx hb d rfl (z o hk H locs ls hP hS hl)
theorem zz_idiv (h : zz_X V E own cc nL Ts F K ret) {x y : Int32} (d : decode cc pc = .ok (.idiv, 1)) (hy : ¬ y = 0) (z : zz_Z V E nL cn sn inj k (pc + 1) L (.int (x / y) :: stk) st) : zz_Z V E nL cn sn inj k pc L (.int y :: .int x :: stk) st := by
  obtain ⟨l, D, cl, tys, sf, as, w⟩ := V
  obtain ⟨p, e, R, s, m, args, below, meth, c, A, mc, ms⟩ := E
  obtain ⟨⟨hx, hb, hml, hown, hts⟩, hK, hN, ⟨hD, hsf⟩, hA, hlk, hret, hF, hKl⟩ := h
  intro o hk H locs ls hP hS hl
  exact lv_idiv hx hb d hy (z o hk H locs ls hP hS hl)
theorem zz_irem (h : zz_X V E own cc nL Ts F K ret) {x y : Int32} (d : decode cc pc = .ok (.irem, 1)) (hy : ¬ y = 0) (z : zz_Z V E nL cn sn inj k (pc + 1) L (.int (zz_rem x y) :: stk) st) : zz_Z V E nL cn sn inj k pc L (.int y :: .int x :: stk) st := by
  obtain ⟨l, D, cl, tys, sf, as, w⟩ := V
  obtain ⟨p, e, R, s, m, args, below, meth, c, A, mc, ms⟩ := E
  obtain ⟨⟨hx, hb, hml, hown, hts⟩, hK, hN, ⟨hD, hsf⟩, hA, hlk, hret, hF, hKl⟩ := h
  intro o hk H locs ls hP hS hl
  exact lv_irem hx hb d hy (z o hk H locs ls hP hS hl)
theorem zz_idivG (h : zz_X V E own cc nL Ts F K ret) {x y : Int32} (d : decode cc pc = .ok (.idiv, 1)) (z : zz_Z V E nL cn sn inj k (pc + 1) L (.int (x / y) :: stk) st) : zz_Z V E nL cn sn inj (zz_gd (y != 0) k) pc L (.int y :: .int x :: stk) st := zz_gd1 (fun hg => zz_idiv h d (by simpa using hg) z)
theorem zz_dup (h : zz_X V E own cc nL Ts F K ret) {v : Value} (d : decode cc pc = .ok (.dup, 1)) (hv : v.category = 1) (z : zz_Z V E nL cn sn inj k (pc + 1) L (v :: v :: stk) st) : zz_Z V E nL cn sn inj k pc L (v :: stk) st := by
  obtain ⟨l, D, cl, tys, sf, as, w⟩ := V
  obtain ⟨p, e, R, s, m, args, below, meth, c, A, mc, ms⟩ := E
  obtain ⟨⟨hx, hb, hml, hown, hts⟩, hK, hN, ⟨hD, hsf⟩, hA, hlk, hret, hF, hKl⟩ := h
  intro o hk H locs ls hP hS hl
  exact lv_dup hx hb d hv (z o hk H locs ls hP hS hl)
theorem zz_pop (h : zz_X V E own cc nL Ts F K ret) {v : Value} (d : decode cc pc = .ok (.pop, 1)) (hv : v.category = 1) (z : zz_Z V E nL cn sn inj k (pc + 1) L stk st) : zz_Z V E nL cn sn inj k pc L (v :: stk) st := by
  obtain ⟨l, D, cl, tys, sf, as, w⟩ := V
  obtain ⟨p, e, R, s, m, args, below, meth, c, A, mc, ms⟩ := E
  obtain ⟨⟨hx, hb, hml, hown, hts⟩, hK, hN, ⟨hD, hsf⟩, hA, hlk, hret, hF, hKl⟩ := h
  intro o hk H locs ls hP hS hl
  exact lv_pop hx hb d hv (z o hk H locs ls hP hS hl)
theorem zz_dup_x1 (h : zz_X V E own cc nL Ts F K ret) {v1 v2 : Value} (d : decode cc pc = .ok (.dup_x1, 1)) (hv : v1.category = 1) (hw : v2.category = 1) (z : zz_Z V E nL cn sn inj k (pc + 1) L (v1 :: v2 :: v1 :: stk) st) : zz_Z V E nL cn sn inj k pc L (v1 :: v2 :: stk) st := by
  obtain ⟨l, D, cl, tys, sf, as, w⟩ := V
  obtain ⟨p, e, R, s, m, args, below, meth, c, A, mc, ms⟩ := E
  obtain ⟨⟨hx, hb, hml, hown, hts⟩, hK, hN, ⟨hD, hsf⟩, hA, hlk, hret, hF, hKl⟩ := h
  intro o hk H locs ls hP hS hl
  exact lv_dup_x1 hx hb d hv hw (z o hk H locs ls hP hS hl)
theorem zz_dup_x2 (h : zz_X V E own cc nL Ts F K ret) {v1 v2 v3 : Value} (d : decode cc pc = .ok (.dup_x2, 1)) (hv : v1.category = 1) (hw : v2.category = 1) (hu : v3.category = 1) (z : zz_Z V E nL cn sn inj k (pc + 1) L (v1 :: v2 :: v3 :: v1 :: stk) st) : zz_Z V E nL cn sn inj k pc L (v1 :: v2 :: v3 :: stk) st := by
  obtain ⟨l, D, cl, tys, sf, as, w⟩ := V
  obtain ⟨p, e, R, s, m, args, below, meth, c, A, mc, ms⟩ := E
  obtain ⟨⟨hx, hb, hml, hown, hts⟩, hK, hN, ⟨hD, hsf⟩, hA, hlk, hret, hF, hKl⟩ := h
  intro o hk H locs ls hP hS hl
  exact lv_dup_x2 hx hb d hv hw hu (z o hk H locs ls hP hS hl)
theorem zz_dup2 (h : zz_X V E own cc nL Ts F K ret) {v1 v2 : Value} (d : decode cc pc = .ok (.dup2, 1)) (hv : v1.category = 1) (hw : v2.category = 1) (z : zz_Z V E nL cn sn inj k (pc + 1) L (v1 :: v2 :: v1 :: v2 :: stk) st) : zz_Z V E nL cn sn inj k pc L (v1 :: v2 :: stk) st := by
  obtain ⟨l, D, cl, tys, sf, as, w⟩ := V
  obtain ⟨p, e, R, s, m, args, below, meth, c, A, mc, ms⟩ := E
  obtain ⟨⟨hx, hb, hml, hown, hts⟩, hK, hN, ⟨hD, hsf⟩, hA, hlk, hret, hF, hKl⟩ := h
  intro o hk H locs ls hP hS hl
  exact lv_dup2_11 hx hb d hv hw (z o hk H locs ls hP hS hl)
theorem zz_popq (h : zz_X V E own cc nL Ts F K ret) {f : Nat → Nat} {x : Option Nat} (d : decode cc pc = .ok (.pop, 1)) (z : zz_Z V E nL cn sn inj k (pc + 1) L stk st) : zz_Z V E nL cn sn inj k pc L (zz_rf f x :: stk) st := by
  cases x with
  | none => exact zz_pop h d rfl z
  | some t => exact zz_pop h d rfl z
/- x = 0 | ¬ x = 0 -/
theorem zz_if_eq (h : zz_X V E own cc nL Ts F K ret) {x : Int32} {off : Int} (tgt : Nat) (d : decode cc pc = .ok (.ifCond .eq off, 3)) (ht : (pc : Int) + off = (tgt : Int)) (z1 : zz_Z V E nL cn sn inj k1 tgt L stk st) (z2 : zz_Z V E nL cn sn inj k2 (pc + 3) L stk st) : zz_Z V E nL cn sn inj (if x = 0 then k1 else k2) pc L (.int x :: stk) st := by
  obtain ⟨l, D, cl, tys, sf, as, w⟩ := V
  obtain ⟨p, e, R, s, m, args, below, meth, c, A, mc, ms⟩ := E
  obtain ⟨⟨hx, hb, hml, hown, hts⟩, hK, hN, ⟨hD, hsf⟩, hA, hlk, hret, hF, hKl⟩ := h
  intro o hk H locs ls hP hS hl
  exact lv_if_eq hx hb d ht (fun hc => z1 o (by rw [if_pos hc] at hk; exact hk) H locs ls hP hS hl) (fun hc => z2 o (by rw [if_neg hc] at hk; exact hk) H locs ls hP hS hl)
/- x = y | ¬ x = y -/
theorem zz_icmp_eq (h : zz_X V E own cc nL Ts F K ret) {x y : Int32} {off : Int} (tgt : Nat) (d : decode cc pc = .ok (.if_icmp .eq off, 3)) (ht : (pc : Int) + off = (tgt : Int)) (z1 : zz_Z V E nL cn sn inj k1 tgt L stk st) (z2 : zz_Z V E nL cn sn inj k2 (pc + 3) L stk st) : zz_Z V E nL cn sn inj (if x = y then k1 else k2) pc L (.int y :: .int x :: stk) st := by
  obtain ⟨l, D, cl, tys, sf, as, w⟩ := V
  obtain ⟨p, e, R, s, m, args, below, meth, c, A, mc, ms⟩ := E
  obtain ⟨⟨hx, hb, hml, hown, hts⟩, hK, hN, ⟨hD, hsf⟩, hA, hlk, hret, hF, hKl⟩ := h
  intro o hk H locs ls hP hS hl
  exact lv_icmp_eq hx hb d ht (fun hc => z1 o (by rw [if_pos hc] at hk; exact hk) H locs ls hP hS hl) (fun hc => z2 o (by rw [if_neg hc] at hk; exact hk) H locs ls hP hS hl)
/- ¬ x = 0 | x = 0 -/
theorem zz_if_ne (h : zz_X V E own cc nL Ts F K ret) {x : Int32} {off : Int} (tgt : Nat) (d : decode cc pc = .ok (.ifCond .ne off, 3)) (ht : (pc : Int) + off = (tgt : Int)) (z1 : zz_Z V E nL cn sn inj k1 (pc + 3) L stk st) (z2 : zz_Z V E nL cn sn inj k2 tgt L stk st) : zz_Z V E nL cn sn inj (if x = 0 then k1 else k2) pc L (.int x :: stk) st := by
  obtain ⟨l, D, cl, tys, sf, as, w⟩ := V
  obtain ⟨p, e, R, s, m, args, below, meth, c, A, mc, ms⟩ := E
  obtain ⟨⟨hx, hb, hml, hown, hts⟩, hK, hN, ⟨hD, hsf⟩, hA, hlk, hret, hF, hKl⟩ := h
  intro o hk H locs ls hP hS hl
  exact lv_if_ne hx hb d ht (fun hc => z2 o (by rw [if_neg hc] at hk; exact hk) H locs ls hP hS hl) (fun hc => z1 o (by rw [if_pos hc] at hk; exact hk) H locs ls hP hS hl)
/- ¬ x = y | x = y -/
theorem zz_icmp_ne (h : zz_X V E own cc nL Ts F K ret) {x y : Int32} {off : Int} (tgt : Nat) (d : decode cc pc = .ok (.if_icmp .ne off, 3)) (ht : (pc : Int) + off = (tgt : Int)) (z1 : zz_Z V E nL cn sn inj k1 (pc + 3) L stk st) (z2 : zz_Z V E nL cn sn inj k2 tgt L stk st) : zz_Z V E nL cn sn inj (if x = y then k1 else k2) pc L (.int y :: .int x :: stk) st := by
  obtain ⟨l, D, cl, tys, sf, as, w⟩ := V
  obtain ⟨p, e, R, s, m, args, below, meth, c, A, mc, ms⟩ := E
  obtain ⟨⟨hx, hb, hml, hown, hts⟩, hK, hN, ⟨hD, hsf⟩, hA, hlk, hret, hF, hKl⟩ := h
  intro o hk H locs ls hP hS hl
  exact lv_icmp_ne hx hb d ht (fun hc => z2 o (by rw [if_neg hc] at hk; exact hk) H locs ls hP hS hl) (fun hc => z1 o (by rw [if_pos hc] at hk; exact hk) H locs ls hP hS hl)
/- x < 0 | ¬ x < 0 -/
theorem zz_if_lt (h : zz_X V E own cc nL Ts F K ret) {x : Int32} {off : Int} (tgt : Nat) (d : decode cc pc = .ok (.ifCond .lt off, 3)) (ht : (pc : Int) + off = (tgt : Int)) (z1 : zz_Z V E nL cn sn inj k1 tgt L stk st) (z2 : zz_Z V E nL cn sn inj k2 (pc + 3) L stk st) : zz_Z V E nL cn sn inj (if x < 0 then k1 else k2) pc L (.int x :: stk) st := by
  obtain ⟨l, D, cl, tys, sf, as, w⟩ := V
  obtain ⟨p, e, R, s, m, args, below, meth, c, A, mc, ms⟩ := E
  obtain ⟨⟨hx, hb, hml, hown, hts⟩, hK, hN, ⟨hD, hsf⟩, hA, hlk, hret, hF, hKl⟩ := h
  intro o hk H locs ls hP hS hl
  exact lv_if_lt hx hb d ht (fun hc => z1 o (by rw [if_pos hc] at hk; exact hk) H locs ls hP hS hl) (fun hc => z2 o (by rw [if_neg hc] at hk; exact hk) H locs ls hP hS hl)
/- x < y | ¬ x < y -/
theorem zz_icmp_lt (h : zz_X V E own cc nL Ts F K ret) {x y : Int32} {off : Int} (tgt : Nat) (d : decode cc pc = .ok (.if_icmp .lt off, 3)) (ht : (pc : Int) + off = (tgt : Int)) (z1 : zz_Z V E nL cn sn inj k1 tgt L stk st) (z2 : zz_Z V E nL cn sn inj k2 (pc + 3) L stk st) : zz_Z V E nL cn sn inj (if x < y then k1 else k2) pc L (.int y :: .int x :: stk) st := by
  obtain ⟨l, D, cl, tys, sf, as, w⟩ := V
  obtain ⟨p, e, R, s, m, args, below, meth, c, A, mc, ms⟩ := E
  obtain ⟨⟨hx, hb, hml, hown, hts⟩, hK, hN, ⟨hD, hsf⟩, hA, hlk, hret, hF, hKl⟩ := h
  intro o hk H locs ls hP hS hl
  exact lv_icmp_lt hx hb d ht (fun hc => z1 o (by rw [if_pos hc] at hk; exact hk) H locs ls hP hS hl) (fun hc => z2 o (by rw [if_neg hc] at hk; exact hk) H locs ls hP hS hl)
/- 0 ≤ x | ¬ 0 ≤ x -/
theorem zz_if_ge (h : zz_X V E own cc nL Ts F K ret) {x : Int32} {off : Int} (tgt : Nat) (d : decode cc pc = .ok (.ifCond .ge off, 3)) (ht : (pc : Int) + off = (tgt : Int)) (z1 : zz_Z V E nL cn sn inj k1 tgt L stk st) (z2 : zz_Z V E nL cn sn inj k2 (pc + 3) L stk st) : zz_Z V E nL cn sn inj (if 0 ≤ x then k1 else k2) pc L (.int x :: stk) st := by
  obtain ⟨l, D, cl, tys, sf, as, w⟩ := V
  obtain ⟨p, e, R, s, m, args, below, meth, c, A, mc, ms⟩ := E
  obtain ⟨⟨hx, hb, hml, hown, hts⟩, hK, hN, ⟨hD, hsf⟩, hA, hlk, hret, hF, hKl⟩ := h
  intro o hk H locs ls hP hS hl
  exact lv_if_ge hx hb d ht (fun hc => z1 o (by rw [if_pos hc] at hk; exact hk) H locs ls hP hS hl) (fun hc => z2 o (by rw [if_neg hc] at hk; exact hk) H locs ls hP hS hl)
/- y ≤ x | ¬ y ≤ x -/
theorem zz_icmp_ge (h : zz_X V E own cc nL Ts F K ret) {x y : Int32} {off : Int} (tgt : Nat) (d : decode cc pc = .ok (.if_icmp .ge off, 3)) (ht : (pc : Int) + off = (tgt : Int)) (z1 : zz_Z V E nL cn sn inj k1 tgt L stk st) (z2 : zz_Z V E nL cn sn inj k2 (pc + 3) L stk st) : zz_Z V E nL cn sn inj (if y ≤ x then k1 else k2) pc L (.int y :: .int x :: stk) st := by
  obtain ⟨l, D, cl, tys, sf, as, w⟩ := V
  obtain ⟨p, e, R, s, m, args, below, meth, c, A, mc, ms⟩ := E
  obtain ⟨⟨hx, hb, hml, hown, hts⟩, hK, hN, ⟨hD, hsf⟩, hA, hlk, hret, hF, hKl⟩ := h
  intro o hk H locs ls hP hS hl
  exact lv_icmp_ge hx hb d ht (fun hc => z1 o (by rw [if_pos hc] at hk; exact hk) H locs ls hP hS hl) (fun hc => z2 o (by rw [if_neg hc] at hk; exact hk) H locs ls hP hS hl)
/- 0 < x | ¬ 0 < x -/
theorem zz_if_gt (h : zz_X V E own cc nL Ts F K ret) {x : Int32} {off : Int} (tgt : Nat) (d : decode cc pc = .ok (.ifCond .gt off, 3)) (ht : (pc : Int) + off = (tgt : Int)) (z1 : zz_Z V E nL cn sn inj k1 tgt L stk st) (z2 : zz_Z V E nL cn sn inj k2 (pc + 3) L stk st) : zz_Z V E nL cn sn inj (if 0 < x then k1 else k2) pc L (.int x :: stk) st := by
  obtain ⟨l, D, cl, tys, sf, as, w⟩ := V
  obtain ⟨p, e, R, s, m, args, below, meth, c, A, mc, ms⟩ := E
  obtain ⟨⟨hx, hb, hml, hown, hts⟩, hK, hN, ⟨hD, hsf⟩, hA, hlk, hret, hF, hKl⟩ := h
  intro o hk H locs ls hP hS hl
  exact lv_if_gt hx hb d ht (fun hc => z1 o (by rw [if_pos hc] at hk; exact hk) H locs ls hP hS hl) (fun hc => z2 o (by rw [if_neg hc] at hk; exact hk) H locs ls hP hS hl)
/- y < x | ¬ y < x -/
theorem zz_icmp_gt (h : zz_X V E own cc nL Ts F K ret) {x y : Int32} {off : Int} (tgt : Nat) (d : decode cc pc = .ok (.if_icmp .gt off, 3)) (ht : (pc : Int) + off = (tgt : Int)) (z1 : zz_Z V E nL cn sn inj k1 tgt L stk st) (z2 : zz_Z V E nL cn sn inj k2 (pc + 3) L stk st) : zz_Z V E nL cn sn inj (if y < x then k1 else k2) pc L (.int y :: .int x :: stk) st := by
  obtain ⟨l, D, cl, tys, sf, as, w⟩ := V
  obtain ⟨p, e, R, s, m, args, below, meth, c, A, mc, ms⟩ := E
  obtain ⟨⟨hx, hb, hml, hown, hts⟩, hK, hN, ⟨hD, hsf⟩, hA, hlk, hret, hF, hKl⟩ := h
  intro o hk H locs ls hP hS hl
  exact lv_icmp_gt hx hb d ht (fun hc => z1 o (by rw [if_pos hc] at hk; exact hk) H locs ls hP hS hl) (fun hc => z2 o (by rw [if_neg hc] at hk; exact hk) H locs ls hP hS hl)
/- x ≤ 0 | ¬ x ≤ 0 -/
theorem zz_if_le (h : zz_X V E own cc nL Ts F K ret) {x : Int32} {off : Int} (tgt : Nat) (d : decode cc pc = .ok (.ifCond .le off, 3)) (ht : (pc : Int) + off = (tgt : Int)) (z1 : zz_Z V E nL cn sn inj k1 tgt L stk st) (z2 : zz_Z V E nL cn sn inj k2 (pc + 3) L stk st) : zz_Z V E nL cn sn inj (if x ≤ 0 then k1 else k2) pc L (.int x :: stk) st := by
  obtain ⟨l, D, cl, tys, sf, as, w⟩ := V
  obtain ⟨p, e, R, s, m, args, below, meth, c, A, mc, ms⟩ := E
  obtain ⟨⟨hx, hb, hml, hown, hts⟩, hK, hN, ⟨hD, hsf⟩, hA, hlk, hret, hF, hKl⟩ := h
  intro o hk H locs ls hP hS hl
  exact lv_if_le hx hb d ht (fun hc => z1 o (by rw [if_pos hc] at hk; exact hk) H locs ls hP hS hl) (fun hc => z2 o (by rw [if_neg hc] at hk; exact hk) H locs ls hP hS hl)
/- x ≤ y | ¬ x ≤ y -/
theorem zz_icmp_le (h : zz_X V E own cc nL Ts F K ret) {x y : Int32} {off : Int} (tgt : Nat) (d : decode cc pc = .ok (.if_icmp .le off, 3)) (ht : (pc : Int) + off = (tgt : Int)) (z1 : zz_Z V E nL cn sn inj k1 tgt L stk st) (z2 : zz_Z V E nL cn sn inj k2 (pc + 3) L stk st) : zz_Z V E nL cn sn inj (if x ≤ y then k1 else k2) pc L (.int y :: .int x :: stk) st := by
  obtain ⟨l, D, cl, tys, sf, as, w⟩ := V
  obtain ⟨p, e, R, s, m, args, below, meth, c, A, mc, ms⟩ := E
  obtain ⟨⟨hx, hb, hml, hown, hts⟩, hK, hN, ⟨hD, hsf⟩, hA, hlk, hret, hF, hKl⟩ := h
  intro o hk H locs ls hP hS hl
  exact lv_icmp_le hx hb d ht (fun hc => z1 o (by rw [if_pos hc] at hk; exact hk) H locs ls hP hS hl) (fun hc => z2 o (by rw [if_neg hc] at hk; exact hk) H locs ls hP hS hl)
theorem zz_goto (h : zz_X V E own cc nL Ts F K ret) {off : Int} (tgt : Nat) (d : decode cc pc = .ok (.goto off, 3)) (ht : (pc : Int) + off = (tgt : Int)) (z : zz_Z V E nL cn sn inj k tgt L stk st) : zz_Z V E nL cn sn inj k pc L stk st := by
  obtain ⟨l, D, cl, tys, sf, as, w⟩ := V
  obtain ⟨p, e, R, s, m, args, below, meth, c, A, mc, ms⟩ := E
  obtain ⟨⟨hx, hb, hml, hown, hts⟩, hK, hN, ⟨hD, hsf⟩, hA, hlk, hret, hF, hKl⟩ := h
  intro o hk H locs ls hP hS hl
  exact lv_goto hx hb d ht (z o hk H locs ls hP hS hl)
theorem zz_ifnullN (h : zz_X V E own cc nL Ts F K ret) {off : Int} (tgt : Nat) (d : decode cc pc = .ok (.ifnull off, 3)) (ht : (pc : Int) + off = (tgt : Int)) {f : Nat → Option (α × σ)} (z : zz_Z V E nL cn sn inj k tgt L stk st) : zz_Z V E nL cn sn inj (zz_oc none k f) pc L (.null :: stk) st := by
  obtain ⟨l, D, cl, tys, sf, as, w⟩ := V
  obtain ⟨p, e, R, s, m, args, below, meth, c, A, mc, ms⟩ := E
  obtain ⟨⟨hx, hb, hml, hown, hts⟩, hK, hN, ⟨hD, hsf⟩, hA, hlk, hret, hF, hKl⟩ := h
  intro o hk H locs ls hP hS hl
  exact lv_ifnullN hx hb d ht (z o hk H locs ls hP hS hl)
theorem zz_ifnullS (h : zz_X V E own cc nL Ts F K ret) {off : Int} {x t : Nat} (d : decode cc pc = .ok (.ifnull off, 3)) {f : Nat → Option (α × σ)} (z : zz_Z V E nL cn sn inj (f t) (pc + 3) L stk st) : zz_Z V E nL cn sn inj (zz_oc (some t) k f) pc L (.ref x :: stk) st := by
  obtain ⟨l, D, cl, tys, sf, as, w⟩ := V
  obtain ⟨p, e, R, s, m, args, below, meth, c, A, mc, ms⟩ := E
  obtain ⟨⟨hx, hb, hml, hown, hts⟩, hK, hN, ⟨hD, hsf⟩, hA, hlk, hret, hF, hKl⟩ := h
  intro o hk H locs ls hP hS hl
  exact lv_ifnull hx hb d (z o hk H locs ls hP hS hl)
theorem zz_ifnonnullN (h : zz_X V E own cc nL Ts F K ret) {off : Int} (d : decode cc pc = .ok (.ifnonnull off, 3)) {f : Nat → Option (α × σ)} (z : zz_Z V E nL cn sn inj k (pc + 3) L stk st) : zz_Z V E nL cn sn inj (zz_oc none k f) pc L (.null :: stk) st := by
  obtain ⟨l, D, cl, tys, sf, as, w⟩ := V
  obtain ⟨p, e, R, s, m, args, below, meth, c, A, mc, ms⟩ := E
  obtain ⟨⟨hx, hb, hml, hown, hts⟩, hK, hN, ⟨hD, hsf⟩, hA, hlk, hret, hF, hKl⟩ := h
  intro o hk H locs ls hP hS hl
  exact lv_ifnonnullN hx hb d (z o hk H locs ls hP hS hl)
theorem zz_ifnonnullS (h : zz_X V E own cc nL Ts F K ret) {off : Int} (tgt : Nat) {x t : Nat} (d : decode cc pc = .ok (.ifnonnull off, 3)) (ht : (pc : Int) + off = (tgt : Int)) {f : Nat → Option (α × σ)} (z : zz_Z V E nL cn sn inj (f t) tgt L stk st) : zz_Z V E nL cn sn inj (zz_oc (some t) k f) pc L (.ref x :: stk) st := by
  obtain ⟨l, D, cl, tys, sf, as, w⟩ := V
  obtain ⟨p, e, R, s, m, args, below, meth, c, A, mc, ms⟩ := E
  obtain ⟨⟨hx, hb, hml, hown, hts⟩, hK, hN, ⟨hD, hsf⟩, hA, hlk, hret, hF, hKl⟩ := h
  intro o hk H locs ls hP hS hl
  exact lv_ifnonnull hx hb d ht (z o hk H locs ls hP hS hl)
theorem zz_lookup (h : zz_X V E own cc nL Ts F K ret) {dflt : Int} {ps : Array (Int × Int)} {ln : Nat} {x y : Int32} {off : Int} (tgt : Nat) (d : decode cc pc = .ok (.lookupswitch dflt ps, ln)) (hp : (ps.toList.zip (ps.toList.drop 1)).all (fun (a, next) => a.1 < next.1) = true) (hy : x = y) (ho : Op.lookupswitch.offset ps.toList dflt y.toInt = off) (ht : (pc : Int) + off = (tgt : Int)) (z : zz_Z V E nL cn sn inj k tgt L stk st) : zz_Z V E nL cn sn inj k pc L (.int x :: stk) st := by
  obtain ⟨l, D, cl, tys, sf, as, w⟩ := V
  obtain ⟨p, e, R, s, m, args, below, meth, c, A, mc, ms⟩ := E
  obtain ⟨⟨hx, hb, hml, hown, hts⟩, hK, hN, ⟨hD, hsf⟩, hA, hlk, hret, hF, hKl⟩ := h
  intro o hk H locs ls hP hS hl
  subst hy
  exact lv_lookup hx hb d hp ho ht (z o hk H locs ls hP hS hl)
theorem zz_lookupD (h : zz_X V E own cc nL Ts F K ret) {dflt : Int} {ps : Array (Int × Int)} {ln : Nat} {x : Int32} {off : Int} (tgt : Nat) (d : decode cc pc = .ok (.lookupswitch dflt ps, ln)) (hp : (ps.toList.zip (ps.toList.drop 1)).all (fun (a, next) => a.1 < next.1) = true) (ho : Op.lookupswitch.offset ps.toList dflt x.toInt = off) (ht : (pc : Int) + off = (tgt : Int)) (z : zz_Z V E nL cn sn inj k tgt L stk st) : zz_Z V E nL cn sn inj k pc L (.int x :: stk) st := by
  obtain ⟨l, D, cl, tys, sf, as, w⟩ := V
  obtain ⟨p, e, R, s, m, args, below, meth, c, A, mc, ms⟩ := E
  obtain ⟨⟨hx, hb, hml, hown, hts⟩, hK, hN, ⟨hD, hsf⟩, hA, hlk, hret, hF, hKl⟩ := h
  intro o hk H locs ls hP hS hl
  exact lv_lookup hx hb d hp ho ht (z o hk H locs ls hP hS hl)
theorem zz_table (h : zz_X V E own cc nL Ts F K ret) {dflt lo hi : Int} {offs : Array Int} {ln : Nat} {x y : Int32} {off : Int} (tgt : Nat) (d : decode cc pc = .ok (.tableswitch dflt lo hi offs, ln)) (hy : x = y) (h1 : ¬ y.toInt < lo) (h2 : ¬ hi < y.toInt) (ho : offs[(y.toInt - lo).toNat]? = some off) (ht : (pc : Int) + off = (tgt : Int)) (z : zz_Z V E nL cn sn inj k tgt L stk st) : zz_Z V E nL cn sn inj k pc L (.int x :: stk) st := by
  obtain ⟨l, D, cl, tys, sf, as, w⟩ := V
  obtain ⟨p, e, R, s, m, args, below, meth, c, A, mc, ms⟩ := E
  obtain ⟨⟨hx, hb, hml, hown, hts⟩, hK, hN, ⟨hD, hsf⟩, hA, hlk, hret, hF, hKl⟩ := h
  intro o hk H locs ls hP hS hl
  subst hy
  exact lv_tableIn hx hb d h1 h2 ho ht (z o hk H locs ls hP hS hl)
theorem zz_tableD (h : zz_X V E own cc nL Ts F K ret) {dflt lo hi : Int} {offs : Array Int} {ln : Nat} {x : Int32} (tgt : Nat) (d : decode cc pc = .ok (.tableswitch dflt lo hi offs, ln)) (ho : x.toInt < lo ∨ hi < x.toInt) (ht : (pc : Int) + dflt = (tgt : Int)) (z : zz_Z V E nL cn sn inj k tgt L stk st) : zz_Z V E nL cn sn inj k pc L (.int x :: stk) st := by
  obtain ⟨l, D, cl, tys, sf, as, w⟩ := V
  obtain ⟨p, e, R, s, m, args, below, meth, c, A, mc, ms⟩ := E
  obtain ⟨⟨hx, hb, hml, hown, hts⟩, hK, hN, ⟨hD, hsf⟩, hA, hlk, hret, hF, hKl⟩ := h
  intro o hk H locs ls hP hS hl
  exact lv_tableOut hx hb d ho ht (z o hk H locs ls hP hS hl)
theorem zz_iret {V : zz_V σ} {st : σ} (h : zz_X V E own cc nL Ts F K (some .int)) {v : Int32} (d : decode cc pc = .ok (.ireturn, 1)) : zz_Z V E nL 0 0 (zz_q V E zz_ji) (some (v, st) : Option (Int32 × σ)) pc L [.int v] st := by
  obtain ⟨l, D, cl, tys, sf, as, w⟩ := V
  obtain ⟨p, e, R, s, m, args, below, meth, c, A, mc, ms⟩ := E
  obtain ⟨⟨hx, hb, hml, hown, hts⟩, hK, hN, ⟨hD, hsf⟩, hA, hlk, hret, hF, hKl⟩ := h
  intro o hk H locs ls hP hS hl
  cases hk
  refine W.widen (k := mc) (n := ms) (Nat.zero_le _) (Nat.zero_le _) ?_
  show W p l e R s m args below meth c H locs mc ms (MQ below (fun _ s0 oc t => (oc = .returned (zz_ji v) ∧ va_P D cl (w st) t.heap) ∧ va_F A s0 t) args s mc ms A) _
  exact W.iret hx hb hret (fun t ht hW => ⟨⟨rfl, by rw [ht]; exact hP⟩, hS.F ht⟩) hS.2.2 d (hlocks := hlk)
theorem zz_zret {V : zz_V σ} {st : σ} (h : zz_X V E own cc nL Ts F K (some .boolean)) {v : Int32} (d : decode cc pc = .ok (.ireturn, 1)) (hn : narrow .boolean (.int v) = .int v) : zz_Z V E nL 0 0 (zz_q V E zz_ji) (some (v, st) : Option (Int32 × σ)) pc L [.int v] st := by
  obtain ⟨l, D, cl, tys, sf, as, w⟩ := V
  obtain ⟨p, e, R, s, m, args, below, meth, c, A, mc, ms⟩ := E
  obtain ⟨⟨hx, hb, hml, hown, hts⟩, hK, hN, ⟨hD, hsf⟩, hA, hlk, hret, hF, hKl⟩ := h
  intro o hk H locs ls hP hS hl
  cases hk
  refine W.widen (k := mc) (n := ms) (Nat.zero_le _) (Nat.zero_le _) ?_
  show W p l e R s m args below meth c H locs mc ms (MQ below (fun _ s0 oc t => (oc = .returned (zz_ji v) ∧ va_P D cl (w st) t.heap) ∧ va_F A s0 t) args s mc ms A) _
  exact W.zret hx hb hret hn (fun t ht hW => ⟨⟨rfl, by rw [ht]; exact hP⟩, hS.F ht⟩) hS.2.2 d (hlocks := hlk)
theorem zz_nbo {v : Int32} (h : zz_bo v = true) : narrow .boolean (.int v) = .int v ∧ fits .boolean (.int v) = true := by
  unfold zz_bo at h
  simp only [Bool.or_eq_true, beq_iff_eq] at h
  rcases h with rfl | rfl <;> exact ⟨by decide +kernel, by decide +kernel⟩
theorem zz_zretG {V : zz_V σ} {st : σ} (h : zz_X V E own cc nL Ts F K (some .boolean)) {v : Int32} (d : decode cc pc = .ok (.ireturn, 1)) : zz_Z V E nL 0 0 (zz_q V E zz_ji) (zz_gd (zz_bo v) (some (v, st)) : Option (Int32 × σ)) pc L [.int v] st := zz_gd1 (fun hb => zz_zret h d (zz_nbo hb).1)
theorem zz_vret {V : zz_V σ} {st : σ} (h : zz_X V E own cc nL Ts F K none) (d : decode cc pc = .ok (.return_, 1)) : zz_Z V E nL 0 0 (zz_q V E zz_jv) (some ((), st) : Option (Unit × σ)) pc L [] st := by
  obtain ⟨l, D, cl, tys, sf, as, w⟩ := V
  obtain ⟨p, e, R, s, m, args, below, meth, c, A, mc, ms⟩ := E
  obtain ⟨⟨hx, hb, hml, hown, hts⟩, hK, hN, ⟨hD, hsf⟩, hA, hlk, hret, hF, hKl⟩ := h
  intro o hk H locs ls hP hS hl
  cases hk
  refine W.widen (k := mc) (n := ms) (Nat.zero_le _) (Nat.zero_le _) ?_
  show W p l e R s m args below meth c H locs mc ms (MQ below (fun _ s0 oc t => (oc = .returned (zz_jv ()) ∧ va_P D cl (w st) t.heap) ∧ va_F A s0 t) args s mc ms A) _
  exact W.vret hx hb hret (fun t ht hW => ⟨⟨rfl, by rw [ht]; exact hP⟩, hS.F ht⟩) hS.2.2 d (hlocks := hlk)
theorem zz_rfv (f : Nat → Nat) (x : Option Nat) : zz_rf f x = .null ∨ ∃ a, zz_rf f x = .ref a := by
  cases x with
  | none => exact Or.inl rfl
  | some t => exact Or.inr ⟨f t, rfl⟩
theorem zz_aret {V : zz_V σ} {st : σ} {C : String} (h : zz_X V E own cc nL Ts F K (some (.object C))) {f : Nat → Nat} {x : Option Nat} {v : Value} (hv : zz_rf f x = v) (d : decode cc pc = .ok (.areturn, 1)) : zz_Z V E nL 0 0 (zz_q V E (zz_jq f)) (some (x, st) : Option (Option Nat × σ)) pc L [v] st := by
  obtain ⟨l, D, cl, tys, sf, as, w⟩ := V
  obtain ⟨p, e, R, s, m, args, below, meth, c, A, mc, ms⟩ := E
  obtain ⟨⟨hx, hb, hml, hown, hts⟩, hK, hN, ⟨hD, hsf⟩, hA, hlk, hret, hF, hKl⟩ := h
  intro o hk H locs ls hP hS hl
  cases hk
  refine W.widen (k := mc) (n := ms) (Nat.zero_le _) (Nat.zero_le _) ?_
  show W p l e R s m args below meth c H locs mc ms (MQ below (fun _ s0 oc t => (oc = .returned ((zz_jq f) x) ∧ va_P D cl (w st) t.heap) ∧ va_F A s0 t) args s mc ms A) _
  exact by
    subst hv
    exact W.aret hx hb hret (Or.inl ⟨_, rfl⟩) (zz_rfv f x) (fun t ht hW => ⟨⟨rfl, by rw [ht]; exact hP⟩, hS.F ht⟩) hS.2.2 d (hlocks := hlk)
theorem zz_get (h : zz_X V E own cc nL Ts F K ret) {C ref : String} {T : u_T} {N ci index : Nat} (hin : ∀ q ∈ u_ws C T N, q ∈ Ts) (q0 : Nat) {a : Nat} {fs : List Value} (he : (zz_w V st)[q0]? = some (a, .inr (ci, fs))) (hc : (zz_cl V)[ci]? = some (C, T, N)) (kf : Nat) (hk : kf < N) (hlink : Cond.fieldLink own index ref (T kf).2.1 (T kf).2.2.1 ∈ Ts) (hsame : (T kf).1 = ref) {v : Value} (hv : fs[kf]? = some v) (d : decode cc pc = .ok (.getfield index, 3)) (z : zz_Z V E nL cn sn inj k (pc + 3) L (v :: stk) st) : zz_Z V E nL cn sn inj k pc L (.ref a :: stk) st := by
  obtain ⟨l, D, cl, tys, sf, as, w⟩ := V
  obtain ⟨p, e, R, s, m, args, below, meth, c, A, mc, ms⟩ := E
  obtain ⟨⟨hx, hb, hml, hown, hts⟩, hK, hN, ⟨hD, hsf⟩, hA, hlk, hret, hF, hKl⟩ := h
  intro o hk0 H locs ls hP hS hl
  exact va_get hx hb hts hin hown hK hP q0 he hc kf hk (hts _ hlink) (fun _ q => by rw [← hsame]; exact q) hv d (z o hk0 H locs ls hP hS hl)
theorem zz_put (h : zz_X V E own cc nL Ts F K ret) {C ref : String} {T : u_T} {N ci index : Nat} (hin : ∀ q ∈ u_ws C T N, q ∈ Ts) (ty0 : Nat → FieldType) (hty : ∀ k, k < N → parseFieldDescriptor (T k).2.2.1 = some (ty0 k)) (hnm : ∀ a, a < N → ∀ b, b < N → a ≠ b → (T a).2.1 ≠ (T b).2.1) (q0 : Nat) {a : Nat} {fs : List Value} (he : (zz_w V st)[q0]? = some (a, .inr (ci, fs))) (hc : (zz_cl V)[ci]? = some (C, T, N)) (kf : Nat) (hk : kf < N) (hlink : Cond.fieldLink own index ref (T kf).2.1 (T kf).2.2.1 ∈ Ts) (hsame : (T kf).1 = ref) (hfin : (T kf).2.2.2 = false) {ty : FieldType} {v : Value} (hd : parseFieldDescriptor (T kf).2.2.1 = some ty) (hn : narrow ty v = v) (hfit : fits ty v = true) (hlen : kf < fs.length) {st' : σ} (hs : (zz_w V st).set q0 (a, .inr (ci, fs.set kf v)) = zz_w V st') (d : decode cc pc = .ok (.putfield index, 3)) (z : zz_Z V E nL cn sn inj k (pc + 3) L stk st') : zz_Z V E nL cn sn inj k pc L (v :: .ref a :: stk) st := by
  obtain ⟨l, D, cl, tys, sf, as, w⟩ := V
  obtain ⟨p, e, R, s, m, args, below, meth, c, A, mc, ms⟩ := E
  obtain ⟨⟨hx, hb, hml, hown, hts⟩, hK, hN, ⟨hD, hsf⟩, hA, hlk, hret, hF, hKl⟩ := h
  intro o hk0 H locs ls hP hS hl
  refine va_put hx hb hts hin ty0 hty hnm hown hK hP ((hD st).weaken (fun _ _ _ q => hA _ q)) hS q0 he hc kf hk (hts _ hlink) (fun _ q => by rw [← hsame]; exact q) hfin hd hn hfit hlen d (fun H1 locs1 hP1 _ hS1 => ?_)
  have hs : (w st).set q0 (a, .inr (ci, fs.set kf v)) = w st' := hs
  rw [hs] at hP1
  exact z o hk0 H1 locs1 ls hP1 hS1 hl
theorem zz_iald (h : zz_X V E own cc nL Ts F K ret) (q0 t0 : Nat) {cA : ClassId} {n a : Nat} {f : Nat → Int32} (ha : (zz_w V st)[q0]? = some (a, .inl (cA, n, .inl f))) (ht : (zz_ty V)[t0]? = some (cA, .int)) {i : Int32} (d : decode cc pc = .ok (.iaload, 1)) (z : zz_Z V E nL cn sn inj k (pc + 1) L (.int (f i.toNatClampNeg) :: stk) st) : zz_Z V E nL cn sn inj (zz_gd (zz_in i n) k) pc L (.int i :: .ref a :: stk) st := zz_gd1 (fun hg => by
    obtain ⟨l, D, cl, tys, sf, as, w⟩ := V
    obtain ⟨p, e, R, s, m, args, below, meth, c, A, mc, ms⟩ := E
    obtain ⟨⟨hx, hb, hml, hown, hts⟩, hK, hN, ⟨hD, hsf⟩, hA, hlk, hret, hF, hKl⟩ := h
    intro o hk H locs ls hP hS hl
    exact va_iald hx hb hK hP q0 t0 ha ht (zz_in_vp hg) d (z o hk H locs ls hP hS hl))
theorem zz_zald (h : zz_X V E own cc nL Ts F K ret) (q0 t0 : Nat) {cA : ClassId} {n a : Nat} {f : Nat → Int32} (ha : (zz_w V st)[q0]? = some (a, .inl (cA, n, .inl f))) (ht : (zz_ty V)[t0]? = some (cA, .boolean)) {i : Int32} (d : decode cc pc = .ok (.baload, 1)) (z : zz_Z V E nL cn sn inj k (pc + 1) L (.int (f i.toNatClampNeg) :: stk) st) : zz_Z V E nL cn sn inj (zz_gd (zz_in i n) k) pc L (.int i :: .ref a :: stk) st := zz_gd1 (fun hg => by
    obtain ⟨l, D, cl, tys, sf, as, w⟩ := V
    obtain ⟨p, e, R, s, m, args, below, meth, c, A, mc, ms⟩ := E
    obtain ⟨⟨hx, hb, hml, hown, hts⟩, hK, hN, ⟨hD, hsf⟩, hA, hlk, hret, hF, hKl⟩ := h
    intro o hk H locs ls hP hS hl
    exact va_zald hx hb hK hP q0 t0 ha ht (zz_in_vp hg) d (z o hk H locs ls hP hS hl))
theorem zz_lald (h : zz_X V E own cc nL Ts F K ret) (q0 t0 : Nat) {cA : ClassId} {n a : Nat} {f : Nat → Int64} (ha : (zz_w V st)[q0]? = some (a, .inl (cA, n, .inr (.inl f)))) (ht : (zz_ty V)[t0]? = some (cA, .long)) {i : Int32} (d : decode cc pc = .ok (.laload, 1)) (z : zz_Z V E nL cn sn inj k (pc + 1) L (.long (f i.toNatClampNeg) :: stk) st) : zz_Z V E nL cn sn inj (zz_gd (zz_in i n) k) pc L (.int i :: .ref a :: stk) st := zz_gd1 (fun hg => by
    obtain ⟨l, D, cl, tys, sf, as, w⟩ := V
    obtain ⟨p, e, R, s, m, args, below, meth, c, A, mc, ms⟩ := E
    obtain ⟨⟨hx, hb, hml, hown, hts⟩, hK, hN, ⟨hD, hsf⟩, hA, hlk, hret, hF, hKl⟩ := h
    intro o hk H locs ls hP hS hl
    exact va_lald hx hb hK hP q0 t0 ha ht (zz_in_vp hg) d (z o hk H locs ls hP hS hl))
theorem zz_iast (h : zz_X V E own cc nL Ts F K ret) (q0 t0 : Nat) {cA : ClassId} {n a : Nat} {f : Nat → Int32} {x : Int32} {i : Int32} (ha : (zz_w V st)[q0]? = some (a, .inl (cA, n, .inl f))) (ht : (zz_ty V)[t0]? = some (cA, .int)) {st' : σ} (hs : zz_in i n = true → (zz_w V st).set q0 (a, .inl (cA, n, .inl (upd f i.toNatClampNeg x))) = zz_w V st') (d : decode cc pc = .ok (.iastore, 1)) (z : zz_Z V E nL cn sn inj k (pc + 1) L stk st') : zz_Z V E nL cn sn inj (zz_gd (zz_in i n) k) pc L (.int x :: .int i :: .ref a :: stk) st := zz_gd1 (fun hg => by
    obtain ⟨l, D, cl, tys, sf, as, w⟩ := V
    obtain ⟨p, e, R, s, m, args, below, meth, c, A, mc, ms⟩ := E
    obtain ⟨⟨hx, hb, hml, hown, hts⟩, hK, hN, ⟨hD, hsf⟩, hA, hlk, hret, hF, hKl⟩ := h
    intro o hk H locs ls hP hS hl
    refine va_iast hx hb hK hP ((hD st).weaken (fun _ _ _ q => hA _ q)) hS q0 t0 ha ht (zz_in_vp hg) d (fun H1 locs1 hP1 _ hS1 => ?_)
    have hs : (w st).set q0 (a, .inl (cA, n, .inl (upd f i.toNatClampNeg x))) = w st' := hs hg
    have hP1 : va_P D cl ((w st).set q0 (a, .inl (cA, n, .inl (upd f i.toNatClampNeg x)))) H1 := hP1
    rw [hs] at hP1
    exact z o hk H1 locs1 ls hP1 hS1 hl)
theorem zz_zast (h : zz_X V E own cc nL Ts F K ret) (q0 t0 : Nat) {cA : ClassId} {n a : Nat} {f : Nat → Int32} {x : Int32} {i : Int32} (ha : (zz_w V st)[q0]? = some (a, .inl (cA, n, .inl f))) (ht : (zz_ty V)[t0]? = some (cA, .boolean)) {st' : σ} (hs : zz_in i n = true → (zz_w V st).set q0 (a, .inl (cA, n, .inl (upd f i.toNatClampNeg (zz_bn x)))) = zz_w V st') (d : decode cc pc = .ok (.bastore, 1)) (z : zz_Z V E nL cn sn inj k (pc + 1) L stk st') : zz_Z V E nL cn sn inj (zz_gd (zz_in i n) k) pc L (.int x :: .int i :: .ref a :: stk) st := zz_gd1 (fun hg => by
    obtain ⟨l, D, cl, tys, sf, as, w⟩ := V
    obtain ⟨p, e, R, s, m, args, below, meth, c, A, mc, ms⟩ := E
    obtain ⟨⟨hx, hb, hml, hown, hts⟩, hK, hN, ⟨hD, hsf⟩, hA, hlk, hret, hF, hKl⟩ := h
    intro o hk H locs ls hP hS hl
    refine va_zast hx hb hK hP ((hD st).weaken (fun _ _ _ q => hA _ q)) hS q0 t0 ha ht (zz_in_vp hg) d (fun H1 locs1 hP1 _ hS1 => ?_)
    have hs : (w st).set q0 (a, .inl (cA, n, .inl (upd f i.toNatClampNeg (zz_bn x)))) = w st' := hs hg
    have hP1 : va_P D cl ((w st).set q0 (a, .inl (cA, n, .inl (upd f i.toNatClampNeg (zz_bn x))))) H1 := hP1
    rw [hs] at hP1
    exact z o hk H1 locs1 ls hP1 hS1 hl)
theorem zz_last (h : zz_X V E own cc nL Ts F K ret) (q0 t0 : Nat) {cA : ClassId} {n a : Nat} {f : Nat → Int64} {x : Int64} {i : Int32} (ha : (zz_w V st)[q0]? = some (a, .inl (cA, n, .inr (.inl f)))) (ht : (zz_ty V)[t0]? = some (cA, .long)) {st' : σ} (hs : zz_in i n = true → (zz_w V st).set q0 (a, .inl (cA, n, .inr (.inl (vp_updL f i.toNatClampNeg x)))) = zz_w V st') (d : decode cc pc = .ok (.lastore, 1)) (z : zz_Z V E nL cn sn inj k (pc + 1) L stk st') : zz_Z V E nL cn sn inj (zz_gd (zz_in i n) k) pc L (.long x :: .int i :: .ref a :: stk) st := zz_gd1 (fun hg => by
    obtain ⟨l, D, cl, tys, sf, as, w⟩ := V
    obtain ⟨p, e, R, s, m, args, below, meth, c, A, mc, ms⟩ := E
    obtain ⟨⟨hx, hb, hml, hown, hts⟩, hK, hN, ⟨hD, hsf⟩, hA, hlk, hret, hF, hKl⟩ := h
    intro o hk H locs ls hP hS hl
    refine va_last hx hb hK hP ((hD st).weaken (fun _ _ _ q => hA _ q)) hS q0 t0 ha ht (zz_in_vp hg) d (fun H1 locs1 hP1 _ hS1 => ?_)
    have hs : (w st).set q0 (a, .inl (cA, n, .inr (.inl (vp_updL f i.toNatClampNeg x)))) = w st' := hs hg
    have hP1 : va_P D cl ((w st).set q0 (a, .inl (cA, n, .inr (.inl (vp_updL f i.toNatClampNeg x))))) H1 := hP1
    rw [hs] at hP1
    exact z o hk H1 locs1 ls hP1 hS1 hl)
theorem zz_aldq (h : zz_X V E own cc nL Ts F K ret) (q0 t0 : Nat) {cA : ClassId} {C : String} {n a : Nat} {g : Nat → Nat} (ha : (zz_w V st)[q0]? = some (a, .inl (cA, n, .inr (.inr (.inr (.inr (fun j => some (g j)))))))) (ht : (zz_ty V)[t0]? = some (cA, .object C)) {i : Int32} (d : decode cc pc = .ok (.aaload, 1)) (z : zz_Z V E nL cn sn inj k (pc + 1) L (.ref (g i.toNatClampNeg) :: stk) st) : zz_Z V E nL cn sn inj (zz_gd (zz_in i n) k) pc L (.int i :: .ref a :: stk) st := zz_gd1 (fun hg => by
    obtain ⟨l, D, cl, tys, sf, as, w⟩ := V
    obtain ⟨p, e, R, s, m, args, below, meth, c, A, mc, ms⟩ := E
    obtain ⟨⟨hx, hb, hml, hown, hts⟩, hK, hN, ⟨hD, hsf⟩, hA, hlk, hret, hF, hKl⟩ := h
    intro o hk H locs ls hP hS hl
    exact va_aldq hx hb hK hP q0 t0 ha ht (zz_in_vp hg) d (z o hk H locs ls hP hS hl))
theorem zz_alen (h : zz_X V E own cc nL Ts F K ret) (q0 t0 : Nat) {cA : ClassId} {a : Nat} {x : vp_A} (ha : (zz_w V st)[q0]? = some (a, .inl (cA, x))) {ty : FieldType} (ht : (zz_ty V)[t0]? = some (cA, ty)) (v : Int32) (hv : Int32.ofNat x.1 = v) (d : decode cc pc = .ok (.arraylength, 1)) (z : zz_Z V E nL cn sn inj k (pc + 1) L (.int v :: stk) st) : zz_Z V E nL cn sn inj k pc L (.ref a :: stk) st := by
  obtain ⟨l, D, cl, tys, sf, as, w⟩ := V
  obtain ⟨p, e, R, s, m, args, below, meth, c, A, mc, ms⟩ := E
  obtain ⟨⟨hx, hb, hml, hown, hts⟩, hK, hN, ⟨hD, hsf⟩, hA, hlk, hret, hF, hKl⟩ := h
  intro o hk H locs ls hP hS hl
  exact va_alen hx hb hK hP q0 t0 ha ht hv d (z o hk H locs ls hP hS hl)
theorem zz_back {p : Program} {l : Launch} {e : Env} {R : Room} {s : State} {m : MethodId} {args : Array Value} {below : List Frame} {meth : Method} {c : Code} {H : Heap} {locs : List Loc} {cells slots : Nat} {Q : State → Prop} {ls : Array Slot} {rest st0 : List Value} {A0 A1 : Nat → Prop} {H0 : Heap} {mc ms : Nat} {v : Option Value} {P : Heap → Prop}
    (hr : va_Run p l e R s m args below meth c H locs cells slots mc ms (F0 m pc ls st0) rest (fun s0 oc t => (oc = .returned v ∧ P t.heap) ∧ va_F A1 s0 t) A1) (hS : va_S A0 H0 H locs) (hA : ∀ q, A1 q → A0 q)
    (kk : ∀ (H1 : Heap) (locs1 : List Loc), P H1 → va_S A0 H0 H1 locs1 → W p l e R s m args below meth c H1 locs1 (cells + mc) (slots + ms) Q (F0 m (pc + 3) ls (v.toList ++ rest))) : W p l e R s m args below meth c H locs cells slots Q (F0 m pc ls st0) := by
  intro T hT X
  obtain ⟨v', st₀, t, T', L, h0, X', hL, e1, e2, ⟨⟨hv, hp⟩, hz, hk⟩, st⟩ := hr T hT X
  cases hv
  rw [h0] at hz hk
  obtain ⟨t2, a1, b1⟩ := kk T'.heap (locs ++ L) (by rw [e1]; exact hp)
    ⟨Nat.le_trans hS.1 (by rw [e1]; exact hz), fun q h1 h2 => by rw [e1, hk q (Nat.lt_of_lt_of_le h1 hS.1) (fun z => h2 (hA q z))]; exact hS.2.1 q h1 h2, fun q hq => by
      rcases List.mem_append.mp hq with h | h
      · exact hS.2.2 q h
      · exact hA _ (hL q h)⟩ T' rfl X'
  exact ⟨t2, st t2 a1, b1⟩
def zz_kV (Ts : List Cond) (y : MethodName) (bytes : ByteArray) (maxL : Nat) (ret : Option FieldType) (C : String) (n : Nat) : Prop := (∀ w ∈ Ts, goodWord w = true) ∧ Cond.code y bytes maxL ret ∈ Ts ∧ Cond.instanceMethod y ∈ Ts ∧ Cond.selects C y y ∈ Ts ∧ Cond.initialized C ∈ Ts ∧ (y.cls = C ∧ y.cls ≠ "java/lang/invoke/MethodHandle" ∧ y.cls ≠ "java/lang/invoke/VarHandle" ∧ (parseMethodDescriptor y.desc).map (fun d => d.parameters.length) = some n)
def zz_kS (Ts : List Cond) (y : MethodName) (bytes : ByteArray) (maxL : Nat) (ret : Option FieldType) (n : Nat) : Prop := (∀ w ∈ Ts, goodWord w = true) ∧ Cond.code y bytes maxL ret ∈ Ts ∧ Cond.static y ∈ Ts ∧ Cond.initialized y.cls ∈ Ts ∧ (y.cls ≠ "java/lang/invoke/MethodHandle" ∧ y.cls ≠ "java/lang/invoke/VarHandle" ∧ (parseMethodDescriptor y.desc).map (fun d => d.parameters.length) = some n)
theorem zz_gV {y : MethodName} {bytes : ByteArray} {maxL : Nat} {ret2 : Option FieldType} {C : String} {n index : Nat} (hk : zz_kV Ts y bytes maxL ret2 C n) (hl : Cond.methodLink own index y ∈ Ts) : GoodIn Ts (wsV own index C y (Cond.code y bytes maxL ret2 :: Ts)) := by
  have ok : ∀ w ∈ Ts, w ∈ Ts ∧ ((w.onTables && w.keeps) = true ∨ ∃ ty, w = .arrayClass ty) := fun w h => ⟨h, good_of_word (hk.1 w h)⟩
  intro w hw
  unfold wsV at hw
  rcases List.mem_append.mp hw with h | h
  · simp only [List.mem_cons, List.not_mem_nil, or_false] at h
    rcases h with rfl | rfl | rfl | rfl
    · exact ok _ hl
    · exact ok _ hk.2.2.1
    · exact ok _ hk.2.2.2.1
    · exact ok _ hk.2.2.2.2.1
  · rcases List.mem_cons.mp h with rfl | h
    · exact ok _ hk.2.1
    · exact ok _ h
theorem zz_gS {y : MethodName} {bytes : ByteArray} {maxL : Nat} {ret2 : Option FieldType} {n index : Nat} (hk : zz_kS Ts y bytes maxL ret2 n) (hl : Cond.methodLink own index y ∈ Ts) : GoodIn Ts (va_wsS own index y (Cond.code y bytes maxL ret2 :: Ts)) := by
  have ok : ∀ w ∈ Ts, w ∈ Ts ∧ ((w.onTables && w.keeps) = true ∨ ∃ ty, w = .arrayClass ty) := fun w h => ⟨h, good_of_word (hk.1 w h)⟩
  intro w hw
  unfold va_wsS at hw
  rcases List.mem_append.mp hw with h | h
  · simp only [List.mem_cons, List.not_mem_nil, or_false] at h
    rcases h with rfl | rfl | rfl
    · exact ok _ hl
    · exact ok _ hk.2.2.1
    · exact ok _ hk.2.2.2.1
  · rcases List.mem_cons.mp h with rfl | h
    · exact ok _ hk.2.1
    · exact ok _ h
theorem zz_callV (h : zz_X V E own cc nL Ts F K ret) {y : MethodName} {rm : Room} {bytes : ByteArray} {maxL index n : Nat} {ret2 : Option FieldType} {β : Type} {inj2 : β → Option Value} {kf : Option (β × σ)} {g : β → σ → Option (α × σ)} {rest : List Value} {As : List Value} {C : String} {b q0 ci : Nat} {T : u_T} {N : Nat} {fs : List Value} (he : (zz_w V st)[q0]? = some (b, .inr (ci, fs))) (hcl : (zz_cl V)[ci]? = some (C, T, N)) (hM : zz_C V y (Cond.code y bytes maxL ret2 :: Ts) rm inj2 (.ref b :: As) st kf) (hkv : zz_kV Ts y bytes maxL ret2 C n) (hlk0 : Cond.methodLink own index y ∈ Ts) (hrc : rm.cells = 0) (hrs : rm.slots = 0) (hR : rm.frames + 1 ≤ F ∧ 8 + (maxL + 11) + rm.locals ≤ K) (hn : As.length = n) (hstk : stk = As.reverse ++ .ref b :: rest) (hcat : (rest.map fun v => v.category).sum ≤ 8) (d : decode cc pc = .ok (.invokevirtual index, 3)) (z : ∀ (r : β) (st1 : σ), zz_Z V E nL 0 0 inj (g r st1) (pc + 3) L ((inj2 r).toList ++ rest) st1) : zz_Z V E nL 0 0 inj (zz_bd kf g) pc L stk st := by
  obtain ⟨l, D, cl, tys, sf, as, w⟩ := V
  obtain ⟨p, e, R, s, m, args, below, meth, c, A, mc, ms⟩ := E
  obtain ⟨⟨hx, hb, hml, hown, hts⟩, hK, hN, ⟨hD, hsf⟩, hA, hlk, hret, hF, hKl⟩ := h
  intro o hk H locs ls hP hS hl
  obtain ⟨r, st', e1, e2⟩ := zz_bd_some hk
  have hM := hM (r, st') e1
  have hroom : 2 * (F0 m pc ls stk).monitorRoom + (rest.map fun v => v.category).sum ≤ 8 := lv_room hcat
  have hFB : FrameBlind (va_Pc (.ref b :: As) (fun U => va_P D cl (w st) U.heap ∧ va_K D cl tys U ∧ sf U)) := fun a U g mk q => by
    obtain ⟨q0, qP, qK, qN⟩ := q
    exact ⟨q0, qP, va_K.moved (u := U) (U := U.calling g mk a) (Vm.Alike.refl U.vm) qK, hsf U (U.calling g mk a) [] qN va_S.rf (State.WarmedH.refl U)⟩
  have hpre : ∀ U : State, U.heap = H → s.WarmedH U.vm → va_Pc (.ref b :: As) (fun U => va_P D cl (w st) U.heap ∧ va_K D cl tys U ∧ sf U) (.ref b :: As).toArray U := fun U hU hW => ⟨rfl, by rw [hU]; exact hP, va_K.moved hW.alike hK, hN U locs (by rw [hU]; exact hS) hW⟩
  have hrv := va_recv hK hP hcl he
  refine zz_back (v := inj2 r) (P := fun H => va_P D cl (w st') H) (va_runV (b := b) (As := As) (rest := rest) ⟨hx, hb, hml, hown, hts⟩ hM (cwV n hts (zz_gV hkv hlk0) rfl hrc hrs hkv.2.2.2.2.2 ⟨Nat.le_trans hR.1 hF, Nat.le_trans hR.2 hKl⟩) ⟨hFB, hrv, hpre⟩ rfl hn (hl.1) hstk hroom d ⟨Nat.zero_le _, Nat.zero_le _⟩) hS (fun q hq => hA q hq) (fun H1 locs1 hP1 hS1 => ?_)
  exact z r st' o e2 H1 locs1 ls hP1 hS1 hl
theorem zz_callS (h : zz_X V E own cc nL Ts F K ret) {y : MethodName} {rm : Room} {bytes : ByteArray} {maxL index n : Nat} {ret2 : Option FieldType} {β : Type} {inj2 : β → Option Value} {kf : Option (β × σ)} {g : β → σ → Option (α × σ)} {rest : List Value} {As : List Value} (hM : zz_C V y (Cond.code y bytes maxL ret2 :: Ts) rm inj2 As st kf) (hkv : zz_kS Ts y bytes maxL ret2 n) (hlk0 : Cond.methodLink own index y ∈ Ts) (hrc : rm.cells = 0) (hrs : rm.slots = 0) (hR : rm.frames + 1 ≤ F ∧ 8 + (maxL + 11) + rm.locals ≤ K) (hn : As.length = n) (hstk : stk = As.reverse ++ rest) (hcat : (rest.map fun v => v.category).sum ≤ 8) (d : decode cc pc = .ok (.invokestatic index, 3)) (z : ∀ (r : β) (st1 : σ), zz_Z V E nL 0 0 inj (g r st1) (pc + 3) L ((inj2 r).toList ++ rest) st1) : zz_Z V E nL 0 0 inj (zz_bd kf g) pc L stk st := by
  obtain ⟨l, D, cl, tys, sf, as, w⟩ := V
  obtain ⟨p, e, R, s, m, args, below, meth, c, A, mc, ms⟩ := E
  obtain ⟨⟨hx, hb, hml, hown, hts⟩, hK, hN, ⟨hD, hsf⟩, hA, hlk, hret, hF, hKl⟩ := h
  intro o hk H locs ls hP hS hl
  obtain ⟨r, st', e1, e2⟩ := zz_bd_some hk
  have hM := hM (r, st') e1
  have hroom : 2 * (F0 m pc ls stk).monitorRoom + (rest.map fun v => v.category).sum ≤ 8 := lv_room hcat
  have hFB : FrameBlind (va_Pc (As) (fun U => va_P D cl (w st) U.heap ∧ va_K D cl tys U ∧ sf U)) := fun a U g mk q => by
    obtain ⟨q0, qP, qK, qN⟩ := q
    exact ⟨q0, qP, va_K.moved (u := U) (U := U.calling g mk a) (Vm.Alike.refl U.vm) qK, hsf U (U.calling g mk a) [] qN va_S.rf (State.WarmedH.refl U)⟩
  have hpre : ∀ U : State, U.heap = H → s.WarmedH U.vm → va_Pc (As) (fun U => va_P D cl (w st) U.heap ∧ va_K D cl tys U ∧ sf U) (As).toArray U := fun U hU hW => ⟨rfl, by rw [hU]; exact hP, va_K.moved hW.alike hK, hN U locs (by rw [hU]; exact hS) hW⟩
  refine zz_back (v := inj2 r) (P := fun H => va_P D cl (w st') H) (va_runS (As := As) (rest := rest) ⟨hx, hb, hml, hown, hts⟩ hM (va_cwS n hts (zz_gS hkv hlk0) rfl hrc hrs hkv.2.2.2.2 ⟨Nat.le_trans hR.1 hF, Nat.le_trans hR.2 hKl⟩) ⟨hFB, hpre⟩ rfl hn (hl.1) hstk hroom d ⟨Nat.zero_le _, Nat.zero_le _⟩) hS (fun q hq => hA q hq) (fun H1 locs1 hP1 hS1 => ?_)
  exact z r st' o e2 H1 locs1 ls hP1 hS1 hl
theorem zz_nn {x : Option Nat} {n : Nat} {g : Nat → Nat} {f : Nat → Option (α × σ)} (z : ∀ t, t < n → zz_Z V E nL cn sn inj (f t) pc L (.ref (g t) :: stk) st) : zz_Z V E nL cn sn inj (zz_oc x none (fun t => zz_gd (Nat.blt t n) (f t))) pc L (zz_rf g x :: stk) st := by
  cases x with
  | none => exact zz_none
  | some t => exact zz_gd1 (fun hg => z t (zz_blt hg))
theorem zz_ifnull (h : zz_X V E own cc nL Ts F K ret) {x : Option Nat} {n : Nat} {g : Nat → Nat} {off : Int} (tgt : Nat) (d : decode cc pc = .ok (.ifnull off, 3)) (ht : (pc : Int) + off = (tgt : Int)) {f : Nat → Option (α × σ)} (zn : x = none → zz_Z V E nL cn sn inj k tgt L stk st) (zs : ∀ t, t < n → x = some t → zz_Z V E nL cn sn inj (f t) (pc + 3) L stk st) : zz_Z V E nL cn sn inj (zz_oc x k (fun t => zz_gd (Nat.blt t n) (f t))) pc L (zz_rf g x :: stk) st := by
  cases x with
  | none => exact zz_ifnullN h tgt d ht (zn rfl)
  | some t => exact zz_ifnullS h d (zz_gd1 (fun hg => zs t (zz_blt hg) rfl))
theorem zz_ifnonnull (h : zz_X V E own cc nL Ts F K ret) {x : Option Nat} {n : Nat} {g : Nat → Nat} {off : Int} (tgt : Nat) (d : decode cc pc = .ok (.ifnonnull off, 3)) (ht : (pc : Int) + off = (tgt : Int)) {f : Nat → Option (α × σ)} (zn : x = none → zz_Z V E nL cn sn inj k (pc + 3) L stk st) (zs : ∀ t, t < n → x = some t → zz_Z V E nL cn sn inj (f t) tgt L stk st) : zz_Z V E nL cn sn inj (zz_oc x k (fun t => zz_gd (Nat.blt t n) (f t))) pc L (zz_rf g x :: stk) st := by
  cases x with
  | none => exact zz_ifnonnullN h d (zn rfl)
  | some t => exact zz_ifnonnullS h tgt d ht (zz_gd1 (fun hg => zs t (zz_blt hg) rfl))
theorem zz_aldT (h : zz_X V E own cc nL Ts F K ret) (q0 t0 : Nat) {cA : ClassId} {C : String} {n a : Nat} {g : Nat → Nat} (ha : (zz_w V st)[q0]? = some (a, .inl (cA, n, .inr (.inr (.inr (.inr (fun j => some (g j)))))))) (ht : (zz_ty V)[t0]? = some (cA, .object C)) {i : Int32} (d : decode cc pc = .ok (.aaload, 1)) {f : Nat → Option (α × σ)} (z : ∀ t, t < n → zz_Z V E nL cn sn inj (f t) (pc + 1) L (.ref (g t) :: stk) st) : zz_Z V E nL cn sn inj (zz_gd (zz_in i n) (zz_nm i.toNatClampNeg f)) pc L (.int i :: .ref a :: stk) st := zz_gd1 (fun hg => by
    have hlt : i.toNatClampNeg < n := Nat.not_le.mp (fun q => zz_in_vp hg (Or.inr q))
    have hgd : zz_gd (zz_in i n) (f i.toNatClampNeg) = f i.toNatClampNeg := by rw [hg]; rfl
    have z2 := zz_aldq h q0 t0 ha ht d (z _ hlt)
    rw [hgd] at z2
    exact z2)
theorem zz_mmax (h : zz_X V E own cc nL Ts F K ret) {x y : Int32} {index : Nat} (hlink : Cond.methodLink own index Lib.Math.max.name ∈ Ts) (hstat : Cond.static Lib.Math.max.name ∈ Ts) (hini : Cond.initialized "java/lang/Math" ∈ Ts) (hcode : Cond.code Lib.Math.max.name Lib.Math.max.code 2 (some .int) ∈ Ts) (hf : 1 ≤ F) (hk2 : (stk.map fun v => v.category).sum + 13 ≤ K) (d : decode cc pc = .ok (.invokestatic index, 3)) (z : zz_Z V E nL 0 0 inj k (pc + 3) L (.int (zz_max x y) :: stk) st) : zz_Z V E nL 0 0 inj k pc L (.int y :: .int x :: stk) st := by
  obtain ⟨l, D, cl, tys, sf, as, w⟩ := V
  obtain ⟨p, e, R, s, m, args, below, meth, c, A, mc, ms⟩ := E
  obtain ⟨⟨hx, hb, hml, hown, hts⟩, hK, hN, ⟨hD, hsf⟩, hA, hlk, hret, hF, hKl⟩ := h
  intro o hk H locs ls hP hS hl
  exact va_mmax hx hb (hml.trans hl.1.symm) hown (hts _ hlink) (hts _ hstat) (hts _ hini) (hts _ hcode) (Nat.le_trans hf hF) (Nat.le_trans hk2 hKl) (Nat.zero_le _) (Nat.zero_le _) d (z o hk H locs ls hP hS hl)
theorem zz_now {p : Program} {l : Launch} {e : Env} {R : Room} {s : State} {m : MethodId} {args : Array Value} {below : List Frame} {meth : Method} {c : Code} {H : Heap} {locs : List Loc} {cells slots : Nat} {Q : State → Prop} {g : JFrame} {P : Prop} (f : ∀ T : State, T.heap = H → s.WarmedH T.vm → P) (k : P → W p l e R s m args below meth c H locs cells slots Q g) : W p l e R s m args below meth c H locs cells slots Q g := fun T hT X => k (f T hT X.warmed) T hT X
theorem zz_gets (h : zz_X V E own cc nL Ts F K ret) {C n ds : String} {v : Value} {B : Nat → Prop} {index : Nat} (hZ : ∀ U : State, zz_sf V U → va_Z C n ds v B U U.heap) (hlink : Cond.fieldLink own index C n ds ∈ Ts) (d : decode cc pc = .ok (.getstatic index, 3)) (z : zz_Z V E nL cn sn inj k (pc + 3) L (v :: stk) st) : zz_Z V E nL cn sn inj k pc L stk st := by
  obtain ⟨l, D, cl, tys, sf, as, w⟩ := V
  obtain ⟨p, e, R, s, m, args, below, meth, c, A, mc, ms⟩ := E
  obtain ⟨⟨hx, hb, hml, hown, hts⟩, hK, hN, ⟨hD, hsf⟩, hA, hlk, hret, hF, hKl⟩ := h
  intro o hk H locs ls hP hS hl
  refine zz_now (P := va_Z C n ds v B s H) (fun T hT hW => ?_) (fun hz => ?_)
  · have hs := hN T locs (by rw [hT]; exact hS) hW
    have hz := va_Z.moved hW.alike.symm (hZ T hs)
    rw [hT] at hz
    exact hz
  obtain ⟨cf, kf, fi, f, a, cell, h1, h2, h3, h4, h5, h6, h7, h8⟩ := hz
  exact W.gets hx hb hown (hts _ hlink) h1 h2 h3 h4 h5 (fun e => by rw [e] at h6; cases h6) h7 rfl d (z o hk H locs ls hP hS hl)
theorem zz_tld (h : zz_X V E own cc nL Ts F K ret) {t N : Nat} {f : Nat → Int32} {B : Nat → Prop} (hZ : ∀ U : State, zz_sf V U → va_T .int t N (fun j => .int (f j)) B U U.heap) {i : Int32} (d : decode cc pc = .ok (.iaload, 1)) (z : zz_Z V E nL cn sn inj k (pc + 1) L (.int (f i.toNatClampNeg) :: stk) st) : zz_Z V E nL cn sn inj (zz_gd (zz_in i N) k) pc L (.int i :: .ref t :: stk) st := zz_gd1 (fun hg => by
    obtain ⟨l, D, cl, tys, sf, as, w⟩ := V
    obtain ⟨p, e, R, s, m, args, below, meth, c, A, mc, ms⟩ := E
    obtain ⟨⟨hx, hb, hml, hown, hts⟩, hK, hN, ⟨hD, hsf⟩, hA, hlk, hret, hF, hKl⟩ := h
    intro o hk H locs ls hP hS hl
    refine zz_now (P := va_T .int t N (fun j => .int (f j)) B s H) (fun T hT hW => ?_) (fun hz => ?_)
    · have hs := hN T locs (by rw [hT]; exact hS) hW
      have hz := va_T.moved hW.alike.symm (hZ T hs)
      rw [hT] at hz
      exact hz
    obtain ⟨cell, h1, h2, h3, h4, h5, h6, h7⟩ := hz
    have hin := zz_in_vp hg
    have hlt : i.toNatClampNeg < N := Nat.not_le.mp fun q => hin (Or.inr q)
    have hin' : ¬ (i < 0 ∨ cell.slots.size ≤ i.toNatClampNeg) := by
      intro q
      rcases q with q | q
      · exact hin (Or.inl q)
      · omega
    exact W.iald hx hb h1 h2 h3 hin' (h6 _ hlt) rfl rfl d (z o hk H locs ls hP hS hl))
theorem zz_tlen (h : zz_X V E own cc nL Ts F K ret) {t N : Nat} {f : Nat → Value} {B : Nat → Prop} {ty : FieldType} (hZ : ∀ U : State, zz_sf V U → va_T ty t N f B U U.heap) {v : Int32} (hv : Int32.ofNat N = v) (d : decode cc pc = .ok (.arraylength, 1)) (z : zz_Z V E nL cn sn inj k (pc + 1) L (.int v :: stk) st) : zz_Z V E nL cn sn inj k pc L (.ref t :: stk) st := by
  obtain ⟨l, D, cl, tys, sf, as, w⟩ := V
  obtain ⟨p, e, R, s, m, args, below, meth, c, A, mc, ms⟩ := E
  obtain ⟨⟨hx, hb, hml, hown, hts⟩, hK, hN, ⟨hD, hsf⟩, hA, hlk, hret, hF, hKl⟩ := h
  intro o hk H locs ls hP hS hl
  refine zz_now (P := va_T ty t N f B s H) (fun T hT hW => ?_) (fun hz => ?_)
  · have hs := hN T locs (by rw [hT]; exact hS) hW
    have hz := va_T.moved hW.alike.symm (hZ T hs)
    rw [hT] at hz
    exact hz
  obtain ⟨cell, h1, h2, h3, h4, h5, h6, h7⟩ := hz
  exact W.alen hx hb h1 h2 (h5.trans hv) rfl rfl d (z o hk H locs ls hP hS hl)
theorem zz_callV0i (h : zz_X V E own cc nL Ts F K ret) {y : MethodName} {rm : Room} {bytes : ByteArray} {maxL index : Nat} {ret2 : Option FieldType} {kf : Option (Int32 × σ)} {g : Int32 → σ → Option (α × σ)} {rest : List Value} {C : String} {b ci : Nat} {T : u_T} {N : Nat} {fs : List Value} (q0 : Nat) (he : (zz_w V st)[q0]? = some (b, .inr (ci, fs))) (hcl : (zz_cl V)[ci]? = some (C, T, N)) (hM : zz_C V y (Cond.code y bytes maxL ret2 :: Ts) rm zz_ji (.ref b :: []) st kf) (hkv : zz_kV Ts y bytes maxL ret2 C 0) (hlk0 : Cond.methodLink own index y ∈ Ts) (hrc : rm.cells = 0) (hrs : rm.slots = 0) (hR : rm.frames + 1 ≤ F ∧ 8 + (maxL + 11) + rm.locals ≤ K) (hcat : (rest.map fun v => v.category).sum ≤ 8) (d : decode cc pc = .ok (.invokevirtual index, 3)) (z : ∀ (r : Int32) (st1 : σ), zz_Z V E nL 0 0 inj (g r st1) (pc + 3) L (.int r :: rest) st1) : zz_Z V E nL 0 0 inj (zz_bd kf g) pc L (.ref b :: rest) st := zz_callV h (he := he) (hcl := hcl) (hM := hM) (hkv := hkv) (hlk0 := hlk0) (hrc := hrc) (hrs := hrs) (hR := hR) (hn := rfl) (As := []) (hstk := rfl) (hcat := hcat) (d := d) (z := z)
theorem zz_callV0v (h : zz_X V E own cc nL Ts F K ret) {y : MethodName} {rm : Room} {bytes : ByteArray} {maxL index : Nat} {ret2 : Option FieldType} {kf : Option (Unit × σ)} {g : Unit → σ → Option (α × σ)} {rest : List Value} {C : String} {b ci : Nat} {T : u_T} {N : Nat} {fs : List Value} (q0 : Nat) (he : (zz_w V st)[q0]? = some (b, .inr (ci, fs))) (hcl : (zz_cl V)[ci]? = some (C, T, N)) (hM : zz_C V y (Cond.code y bytes maxL ret2 :: Ts) rm zz_jv (.ref b :: []) st kf) (hkv : zz_kV Ts y bytes maxL ret2 C 0) (hlk0 : Cond.methodLink own index y ∈ Ts) (hrc : rm.cells = 0) (hrs : rm.slots = 0) (hR : rm.frames + 1 ≤ F ∧ 8 + (maxL + 11) + rm.locals ≤ K) (hcat : (rest.map fun v => v.category).sum ≤ 8) (d : decode cc pc = .ok (.invokevirtual index, 3)) (z : ∀ (r : Unit) (st1 : σ), zz_Z V E nL 0 0 inj (g r st1) (pc + 3) L rest st1) : zz_Z V E nL 0 0 inj (zz_bd kf g) pc L (.ref b :: rest) st := zz_callV h (he := he) (hcl := hcl) (hM := hM) (hkv := hkv) (hlk0 := hlk0) (hrc := hrc) (hrs := hrs) (hR := hR) (hn := rfl) (As := []) (hstk := rfl) (hcat := hcat) (d := d) (z := z)
theorem zz_callV0q (h : zz_X V E own cc nL Ts F K ret) {y : MethodName} {rm : Room} {bytes : ByteArray} {maxL index : Nat} {ret2 : Option FieldType} {gq : Nat → Nat} {kf : Option (Option Nat × σ)} {g : Option Nat → σ → Option (α × σ)} {rest : List Value} {C : String} {b ci : Nat} {T : u_T} {N : Nat} {fs : List Value} (q0 : Nat) (he : (zz_w V st)[q0]? = some (b, .inr (ci, fs))) (hcl : (zz_cl V)[ci]? = some (C, T, N)) (hM : zz_C V y (Cond.code y bytes maxL ret2 :: Ts) rm (zz_jq gq) (.ref b :: []) st kf) (hkv : zz_kV Ts y bytes maxL ret2 C 0) (hlk0 : Cond.methodLink own index y ∈ Ts) (hrc : rm.cells = 0) (hrs : rm.slots = 0) (hR : rm.frames + 1 ≤ F ∧ 8 + (maxL + 11) + rm.locals ≤ K) (hcat : (rest.map fun v => v.category).sum ≤ 8) (d : decode cc pc = .ok (.invokevirtual index, 3)) (z : ∀ (r : Option Nat) (st1 : σ), zz_Z V E nL 0 0 inj (g r st1) (pc + 3) L (zz_rf gq r :: rest) st1) : zz_Z V E nL 0 0 inj (zz_bd kf g) pc L (.ref b :: rest) st := zz_callV h (he := he) (hcl := hcl) (hM := hM) (hkv := hkv) (hlk0 := hlk0) (hrc := hrc) (hrs := hrs) (hR := hR) (hn := rfl) (As := []) (hstk := rfl) (hcat := hcat) (d := d) (z := z)
theorem zz_callV1i (h : zz_X V E own cc nL Ts F K ret) {y : MethodName} {rm : Room} {bytes : ByteArray} {maxL index : Nat} {ret2 : Option FieldType} {kf : Option (Int32 × σ)} {g : Int32 → σ → Option (α × σ)} {rest : List Value} {a1 : Value} {C : String} {b ci : Nat} {T : u_T} {N : Nat} {fs : List Value} (q0 : Nat) (he : (zz_w V st)[q0]? = some (b, .inr (ci, fs))) (hcl : (zz_cl V)[ci]? = some (C, T, N)) (hM : zz_C V y (Cond.code y bytes maxL ret2 :: Ts) rm zz_ji (.ref b :: [a1]) st kf) (hkv : zz_kV Ts y bytes maxL ret2 C 1) (hlk0 : Cond.methodLink own index y ∈ Ts) (hrc : rm.cells = 0) (hrs : rm.slots = 0) (hR : rm.frames + 1 ≤ F ∧ 8 + (maxL + 11) + rm.locals ≤ K) (hcat : (rest.map fun v => v.category).sum ≤ 8) (d : decode cc pc = .ok (.invokevirtual index, 3)) (z : ∀ (r : Int32) (st1 : σ), zz_Z V E nL 0 0 inj (g r st1) (pc + 3) L (.int r :: rest) st1) : zz_Z V E nL 0 0 inj (zz_bd kf g) pc L (a1 :: .ref b :: rest) st := zz_callV h (he := he) (hcl := hcl) (hM := hM) (hkv := hkv) (hlk0 := hlk0) (hrc := hrc) (hrs := hrs) (hR := hR) (hn := rfl) (As := [a1]) (hstk := rfl) (hcat := hcat) (d := d) (z := z)
theorem zz_callV1v (h : zz_X V E own cc nL Ts F K ret) {y : MethodName} {rm : Room} {bytes : ByteArray} {maxL index : Nat} {ret2 : Option FieldType} {kf : Option (Unit × σ)} {g : Unit → σ → Option (α × σ)} {rest : List Value} {a1 : Value} {C : String} {b ci : Nat} {T : u_T} {N : Nat} {fs : List Value} (q0 : Nat) (he : (zz_w V st)[q0]? = some (b, .inr (ci, fs))) (hcl : (zz_cl V)[ci]? = some (C, T, N)) (hM : zz_C V y (Cond.code y bytes maxL ret2 :: Ts) rm zz_jv (.ref b :: [a1]) st kf) (hkv : zz_kV Ts y bytes maxL ret2 C 1) (hlk0 : Cond.methodLink own index y ∈ Ts) (hrc : rm.cells = 0) (hrs : rm.slots = 0) (hR : rm.frames + 1 ≤ F ∧ 8 + (maxL + 11) + rm.locals ≤ K) (hcat : (rest.map fun v => v.category).sum ≤ 8) (d : decode cc pc = .ok (.invokevirtual index, 3)) (z : ∀ (r : Unit) (st1 : σ), zz_Z V E nL 0 0 inj (g r st1) (pc + 3) L rest st1) : zz_Z V E nL 0 0 inj (zz_bd kf g) pc L (a1 :: .ref b :: rest) st := zz_callV h (he := he) (hcl := hcl) (hM := hM) (hkv := hkv) (hlk0 := hlk0) (hrc := hrc) (hrs := hrs) (hR := hR) (hn := rfl) (As := [a1]) (hstk := rfl) (hcat := hcat) (d := d) (z := z)
theorem zz_callV1q (h : zz_X V E own cc nL Ts F K ret) {y : MethodName} {rm : Room} {bytes : ByteArray} {maxL index : Nat} {ret2 : Option FieldType} {gq : Nat → Nat} {kf : Option (Option Nat × σ)} {g : Option Nat → σ → Option (α × σ)} {rest : List Value} {a1 : Value} {C : String} {b ci : Nat} {T : u_T} {N : Nat} {fs : List Value} (q0 : Nat) (he : (zz_w V st)[q0]? = some (b, .inr (ci, fs))) (hcl : (zz_cl V)[ci]? = some (C, T, N)) (hM : zz_C V y (Cond.code y bytes maxL ret2 :: Ts) rm (zz_jq gq) (.ref b :: [a1]) st kf) (hkv : zz_kV Ts y bytes maxL ret2 C 1) (hlk0 : Cond.methodLink own index y ∈ Ts) (hrc : rm.cells = 0) (hrs : rm.slots = 0) (hR : rm.frames + 1 ≤ F ∧ 8 + (maxL + 11) + rm.locals ≤ K) (hcat : (rest.map fun v => v.category).sum ≤ 8) (d : decode cc pc = .ok (.invokevirtual index, 3)) (z : ∀ (r : Option Nat) (st1 : σ), zz_Z V E nL 0 0 inj (g r st1) (pc + 3) L (zz_rf gq r :: rest) st1) : zz_Z V E nL 0 0 inj (zz_bd kf g) pc L (a1 :: .ref b :: rest) st := zz_callV h (he := he) (hcl := hcl) (hM := hM) (hkv := hkv) (hlk0 := hlk0) (hrc := hrc) (hrs := hrs) (hR := hR) (hn := rfl) (As := [a1]) (hstk := rfl) (hcat := hcat) (d := d) (z := z)
theorem zz_callV2i (h : zz_X V E own cc nL Ts F K ret) {y : MethodName} {rm : Room} {bytes : ByteArray} {maxL index : Nat} {ret2 : Option FieldType} {kf : Option (Int32 × σ)} {g : Int32 → σ → Option (α × σ)} {rest : List Value} {a1 a2 : Value} {C : String} {b ci : Nat} {T : u_T} {N : Nat} {fs : List Value} (q0 : Nat) (he : (zz_w V st)[q0]? = some (b, .inr (ci, fs))) (hcl : (zz_cl V)[ci]? = some (C, T, N)) (hM : zz_C V y (Cond.code y bytes maxL ret2 :: Ts) rm zz_ji (.ref b :: [a1, a2]) st kf) (hkv : zz_kV Ts y bytes maxL ret2 C 2) (hlk0 : Cond.methodLink own index y ∈ Ts) (hrc : rm.cells = 0) (hrs : rm.slots = 0) (hR : rm.frames + 1 ≤ F ∧ 8 + (maxL + 11) + rm.locals ≤ K) (hcat : (rest.map fun v => v.category).sum ≤ 8) (d : decode cc pc = .ok (.invokevirtual index, 3)) (z : ∀ (r : Int32) (st1 : σ), zz_Z V E nL 0 0 inj (g r st1) (pc + 3) L (.int r :: rest) st1) : zz_Z V E nL 0 0 inj (zz_bd kf g) pc L (a2 :: a1 :: .ref b :: rest) st := zz_callV h (he := he) (hcl := hcl) (hM := hM) (hkv := hkv) (hlk0 := hlk0) (hrc := hrc) (hrs := hrs) (hR := hR) (hn := rfl) (As := [a1, a2]) (hstk := rfl) (hcat := hcat) (d := d) (z := z)
theorem zz_callV2v (h : zz_X V E own cc nL Ts F K ret) {y : MethodName} {rm : Room} {bytes : ByteArray} {maxL index : Nat} {ret2 : Option FieldType} {kf : Option (Unit × σ)} {g : Unit → σ → Option (α × σ)} {rest : List Value} {a1 a2 : Value} {C : String} {b ci : Nat} {T : u_T} {N : Nat} {fs : List Value} (q0 : Nat) (he : (zz_w V st)[q0]? = some (b, .inr (ci, fs))) (hcl : (zz_cl V)[ci]? = some (C, T, N)) (hM : zz_C V y (Cond.code y bytes maxL ret2 :: Ts) rm zz_jv (.ref b :: [a1, a2]) st kf) (hkv : zz_kV Ts y bytes maxL ret2 C 2) (hlk0 : Cond.methodLink own index y ∈ Ts) (hrc : rm.cells = 0) (hrs : rm.slots = 0) (hR : rm.frames + 1 ≤ F ∧ 8 + (maxL + 11) + rm.locals ≤ K) (hcat : (rest.map fun v => v.category).sum ≤ 8) (d : decode cc pc = .ok (.invokevirtual index, 3)) (z : ∀ (r : Unit) (st1 : σ), zz_Z V E nL 0 0 inj (g r st1) (pc + 3) L rest st1) : zz_Z V E nL 0 0 inj (zz_bd kf g) pc L (a2 :: a1 :: .ref b :: rest) st := zz_callV h (he := he) (hcl := hcl) (hM := hM) (hkv := hkv) (hlk0 := hlk0) (hrc := hrc) (hrs := hrs) (hR := hR) (hn := rfl) (As := [a1, a2]) (hstk := rfl) (hcat := hcat) (d := d) (z := z)
theorem zz_callV2q (h : zz_X V E own cc nL Ts F K ret) {y : MethodName} {rm : Room} {bytes : ByteArray} {maxL index : Nat} {ret2 : Option FieldType} {gq : Nat → Nat} {kf : Option (Option Nat × σ)} {g : Option Nat → σ → Option (α × σ)} {rest : List Value} {a1 a2 : Value} {C : String} {b ci : Nat} {T : u_T} {N : Nat} {fs : List Value} (q0 : Nat) (he : (zz_w V st)[q0]? = some (b, .inr (ci, fs))) (hcl : (zz_cl V)[ci]? = some (C, T, N)) (hM : zz_C V y (Cond.code y bytes maxL ret2 :: Ts) rm (zz_jq gq) (.ref b :: [a1, a2]) st kf) (hkv : zz_kV Ts y bytes maxL ret2 C 2) (hlk0 : Cond.methodLink own index y ∈ Ts) (hrc : rm.cells = 0) (hrs : rm.slots = 0) (hR : rm.frames + 1 ≤ F ∧ 8 + (maxL + 11) + rm.locals ≤ K) (hcat : (rest.map fun v => v.category).sum ≤ 8) (d : decode cc pc = .ok (.invokevirtual index, 3)) (z : ∀ (r : Option Nat) (st1 : σ), zz_Z V E nL 0 0 inj (g r st1) (pc + 3) L (zz_rf gq r :: rest) st1) : zz_Z V E nL 0 0 inj (zz_bd kf g) pc L (a2 :: a1 :: .ref b :: rest) st := zz_callV h (he := he) (hcl := hcl) (hM := hM) (hkv := hkv) (hlk0 := hlk0) (hrc := hrc) (hrs := hrs) (hR := hR) (hn := rfl) (As := [a1, a2]) (hstk := rfl) (hcat := hcat) (d := d) (z := z)
theorem zz_callV3i (h : zz_X V E own cc nL Ts F K ret) {y : MethodName} {rm : Room} {bytes : ByteArray} {maxL index : Nat} {ret2 : Option FieldType} {kf : Option (Int32 × σ)} {g : Int32 → σ → Option (α × σ)} {rest : List Value} {a1 a2 a3 : Value} {C : String} {b ci : Nat} {T : u_T} {N : Nat} {fs : List Value} (q0 : Nat) (he : (zz_w V st)[q0]? = some (b, .inr (ci, fs))) (hcl : (zz_cl V)[ci]? = some (C, T, N)) (hM : zz_C V y (Cond.code y bytes maxL ret2 :: Ts) rm zz_ji (.ref b :: [a1, a2, a3]) st kf) (hkv : zz_kV Ts y bytes maxL ret2 C 3) (hlk0 : Cond.methodLink own index y ∈ Ts) (hrc : rm.cells = 0) (hrs : rm.slots = 0) (hR : rm.frames + 1 ≤ F ∧ 8 + (maxL + 11) + rm.locals ≤ K) (hcat : (rest.map fun v => v.category).sum ≤ 8) (d : decode cc pc = .ok (.invokevirtual index, 3)) (z : ∀ (r : Int32) (st1 : σ), zz_Z V E nL 0 0 inj (g r st1) (pc + 3) L (.int r :: rest) st1) : zz_Z V E nL 0 0 inj (zz_bd kf g) pc L (a3 :: a2 :: a1 :: .ref b :: rest) st := zz_callV h (he := he) (hcl := hcl) (hM := hM) (hkv := hkv) (hlk0 := hlk0) (hrc := hrc) (hrs := hrs) (hR := hR) (hn := rfl) (As := [a1, a2, a3]) (hstk := rfl) (hcat := hcat) (d := d) (z := z)
theorem zz_callV3v (h : zz_X V E own cc nL Ts F K ret) {y : MethodName} {rm : Room} {bytes : ByteArray} {maxL index : Nat} {ret2 : Option FieldType} {kf : Option (Unit × σ)} {g : Unit → σ → Option (α × σ)} {rest : List Value} {a1 a2 a3 : Value} {C : String} {b ci : Nat} {T : u_T} {N : Nat} {fs : List Value} (q0 : Nat) (he : (zz_w V st)[q0]? = some (b, .inr (ci, fs))) (hcl : (zz_cl V)[ci]? = some (C, T, N)) (hM : zz_C V y (Cond.code y bytes maxL ret2 :: Ts) rm zz_jv (.ref b :: [a1, a2, a3]) st kf) (hkv : zz_kV Ts y bytes maxL ret2 C 3) (hlk0 : Cond.methodLink own index y ∈ Ts) (hrc : rm.cells = 0) (hrs : rm.slots = 0) (hR : rm.frames + 1 ≤ F ∧ 8 + (maxL + 11) + rm.locals ≤ K) (hcat : (rest.map fun v => v.category).sum ≤ 8) (d : decode cc pc = .ok (.invokevirtual index, 3)) (z : ∀ (r : Unit) (st1 : σ), zz_Z V E nL 0 0 inj (g r st1) (pc + 3) L rest st1) : zz_Z V E nL 0 0 inj (zz_bd kf g) pc L (a3 :: a2 :: a1 :: .ref b :: rest) st := zz_callV h (he := he) (hcl := hcl) (hM := hM) (hkv := hkv) (hlk0 := hlk0) (hrc := hrc) (hrs := hrs) (hR := hR) (hn := rfl) (As := [a1, a2, a3]) (hstk := rfl) (hcat := hcat) (d := d) (z := z)
theorem zz_callV3q (h : zz_X V E own cc nL Ts F K ret) {y : MethodName} {rm : Room} {bytes : ByteArray} {maxL index : Nat} {ret2 : Option FieldType} {gq : Nat → Nat} {kf : Option (Option Nat × σ)} {g : Option Nat → σ → Option (α × σ)} {rest : List Value} {a1 a2 a3 : Value} {C : String} {b ci : Nat} {T : u_T} {N : Nat} {fs : List Value} (q0 : Nat) (he : (zz_w V st)[q0]? = some (b, .inr (ci, fs))) (hcl : (zz_cl V)[ci]? = some (C, T, N)) (hM : zz_C V y (Cond.code y bytes maxL ret2 :: Ts) rm (zz_jq gq) (.ref b :: [a1, a2, a3]) st kf) (hkv : zz_kV Ts y bytes maxL ret2 C 3) (hlk0 : Cond.methodLink own index y ∈ Ts) (hrc : rm.cells = 0) (hrs : rm.slots = 0) (hR : rm.frames + 1 ≤ F ∧ 8 + (maxL + 11) + rm.locals ≤ K) (hcat : (rest.map fun v => v.category).sum ≤ 8) (d : decode cc pc = .ok (.invokevirtual index, 3)) (z : ∀ (r : Option Nat) (st1 : σ), zz_Z V E nL 0 0 inj (g r st1) (pc + 3) L (zz_rf gq r :: rest) st1) : zz_Z V E nL 0 0 inj (zz_bd kf g) pc L (a3 :: a2 :: a1 :: .ref b :: rest) st := zz_callV h (he := he) (hcl := hcl) (hM := hM) (hkv := hkv) (hlk0 := hlk0) (hrc := hrc) (hrs := hrs) (hR := hR) (hn := rfl) (As := [a1, a2, a3]) (hstk := rfl) (hcat := hcat) (d := d) (z := z)
theorem zz_callV4i (h : zz_X V E own cc nL Ts F K ret) {y : MethodName} {rm : Room} {bytes : ByteArray} {maxL index : Nat} {ret2 : Option FieldType} {kf : Option (Int32 × σ)} {g : Int32 → σ → Option (α × σ)} {rest : List Value} {a1 a2 a3 a4 : Value} {C : String} {b ci : Nat} {T : u_T} {N : Nat} {fs : List Value} (q0 : Nat) (he : (zz_w V st)[q0]? = some (b, .inr (ci, fs))) (hcl : (zz_cl V)[ci]? = some (C, T, N)) (hM : zz_C V y (Cond.code y bytes maxL ret2 :: Ts) rm zz_ji (.ref b :: [a1, a2, a3, a4]) st kf) (hkv : zz_kV Ts y bytes maxL ret2 C 4) (hlk0 : Cond.methodLink own index y ∈ Ts) (hrc : rm.cells = 0) (hrs : rm.slots = 0) (hR : rm.frames + 1 ≤ F ∧ 8 + (maxL + 11) + rm.locals ≤ K) (hcat : (rest.map fun v => v.category).sum ≤ 8) (d : decode cc pc = .ok (.invokevirtual index, 3)) (z : ∀ (r : Int32) (st1 : σ), zz_Z V E nL 0 0 inj (g r st1) (pc + 3) L (.int r :: rest) st1) : zz_Z V E nL 0 0 inj (zz_bd kf g) pc L (a4 :: a3 :: a2 :: a1 :: .ref b :: rest) st := zz_callV h (he := he) (hcl := hcl) (hM := hM) (hkv := hkv) (hlk0 := hlk0) (hrc := hrc) (hrs := hrs) (hR := hR) (hn := rfl) (As := [a1, a2, a3, a4]) (hstk := rfl) (hcat := hcat) (d := d) (z := z)
theorem zz_callV4v (h : zz_X V E own cc nL Ts F K ret) {y : MethodName} {rm : Room} {bytes : ByteArray} {maxL index : Nat} {ret2 : Option FieldType} {kf : Option (Unit × σ)} {g : Unit → σ → Option (α × σ)} {rest : List Value} {a1 a2 a3 a4 : Value} {C : String} {b ci : Nat} {T : u_T} {N : Nat} {fs : List Value} (q0 : Nat) (he : (zz_w V st)[q0]? = some (b, .inr (ci, fs))) (hcl : (zz_cl V)[ci]? = some (C, T, N)) (hM : zz_C V y (Cond.code y bytes maxL ret2 :: Ts) rm zz_jv (.ref b :: [a1, a2, a3, a4]) st kf) (hkv : zz_kV Ts y bytes maxL ret2 C 4) (hlk0 : Cond.methodLink own index y ∈ Ts) (hrc : rm.cells = 0) (hrs : rm.slots = 0) (hR : rm.frames + 1 ≤ F ∧ 8 + (maxL + 11) + rm.locals ≤ K) (hcat : (rest.map fun v => v.category).sum ≤ 8) (d : decode cc pc = .ok (.invokevirtual index, 3)) (z : ∀ (r : Unit) (st1 : σ), zz_Z V E nL 0 0 inj (g r st1) (pc + 3) L rest st1) : zz_Z V E nL 0 0 inj (zz_bd kf g) pc L (a4 :: a3 :: a2 :: a1 :: .ref b :: rest) st := zz_callV h (he := he) (hcl := hcl) (hM := hM) (hkv := hkv) (hlk0 := hlk0) (hrc := hrc) (hrs := hrs) (hR := hR) (hn := rfl) (As := [a1, a2, a3, a4]) (hstk := rfl) (hcat := hcat) (d := d) (z := z)
theorem zz_callV4q (h : zz_X V E own cc nL Ts F K ret) {y : MethodName} {rm : Room} {bytes : ByteArray} {maxL index : Nat} {ret2 : Option FieldType} {gq : Nat → Nat} {kf : Option (Option Nat × σ)} {g : Option Nat → σ → Option (α × σ)} {rest : List Value} {a1 a2 a3 a4 : Value} {C : String} {b ci : Nat} {T : u_T} {N : Nat} {fs : List Value} (q0 : Nat) (he : (zz_w V st)[q0]? = some (b, .inr (ci, fs))) (hcl : (zz_cl V)[ci]? = some (C, T, N)) (hM : zz_C V y (Cond.code y bytes maxL ret2 :: Ts) rm (zz_jq gq) (.ref b :: [a1, a2, a3, a4]) st kf) (hkv : zz_kV Ts y bytes maxL ret2 C 4) (hlk0 : Cond.methodLink own index y ∈ Ts) (hrc : rm.cells = 0) (hrs : rm.slots = 0) (hR : rm.frames + 1 ≤ F ∧ 8 + (maxL + 11) + rm.locals ≤ K) (hcat : (rest.map fun v => v.category).sum ≤ 8) (d : decode cc pc = .ok (.invokevirtual index, 3)) (z : ∀ (r : Option Nat) (st1 : σ), zz_Z V E nL 0 0 inj (g r st1) (pc + 3) L (zz_rf gq r :: rest) st1) : zz_Z V E nL 0 0 inj (zz_bd kf g) pc L (a4 :: a3 :: a2 :: a1 :: .ref b :: rest) st := zz_callV h (he := he) (hcl := hcl) (hM := hM) (hkv := hkv) (hlk0 := hlk0) (hrc := hrc) (hrs := hrs) (hR := hR) (hn := rfl) (As := [a1, a2, a3, a4]) (hstk := rfl) (hcat := hcat) (d := d) (z := z)
theorem zz_callS0i (h : zz_X V E own cc nL Ts F K ret) {y : MethodName} {rm : Room} {bytes : ByteArray} {maxL index : Nat} {ret2 : Option FieldType} {kf : Option (Int32 × σ)} {g : Int32 → σ → Option (α × σ)} {rest : List Value} (hM : zz_C V y (Cond.code y bytes maxL ret2 :: Ts) rm zz_ji [] st kf) (hkv : zz_kS Ts y bytes maxL ret2 0) (hlk0 : Cond.methodLink own index y ∈ Ts) (hrc : rm.cells = 0) (hrs : rm.slots = 0) (hR : rm.frames + 1 ≤ F ∧ 8 + (maxL + 11) + rm.locals ≤ K) (hcat : (rest.map fun v => v.category).sum ≤ 8) (d : decode cc pc = .ok (.invokestatic index, 3)) (z : ∀ (r : Int32) (st1 : σ), zz_Z V E nL 0 0 inj (g r st1) (pc + 3) L (.int r :: rest) st1) : zz_Z V E nL 0 0 inj (zz_bd kf g) pc L (rest) st := zz_callS h (hM := hM) (hkv := hkv) (hlk0 := hlk0) (hrc := hrc) (hrs := hrs) (hR := hR) (hn := rfl) (As := []) (hstk := rfl) (hcat := hcat) (d := d) (z := z)
theorem zz_callS0v (h : zz_X V E own cc nL Ts F K ret) {y : MethodName} {rm : Room} {bytes : ByteArray} {maxL index : Nat} {ret2 : Option FieldType} {kf : Option (Unit × σ)} {g : Unit → σ → Option (α × σ)} {rest : List Value} (hM : zz_C V y (Cond.code y bytes maxL ret2 :: Ts) rm zz_jv [] st kf) (hkv : zz_kS Ts y bytes maxL ret2 0) (hlk0 : Cond.methodLink own index y ∈ Ts) (hrc : rm.cells = 0) (hrs : rm.slots = 0) (hR : rm.frames + 1 ≤ F ∧ 8 + (maxL + 11) + rm.locals ≤ K) (hcat : (rest.map fun v => v.category).sum ≤ 8) (d : decode cc pc = .ok (.invokestatic index, 3)) (z : ∀ (r : Unit) (st1 : σ), zz_Z V E nL 0 0 inj (g r st1) (pc + 3) L rest st1) : zz_Z V E nL 0 0 inj (zz_bd kf g) pc L (rest) st := zz_callS h (hM := hM) (hkv := hkv) (hlk0 := hlk0) (hrc := hrc) (hrs := hrs) (hR := hR) (hn := rfl) (As := []) (hstk := rfl) (hcat := hcat) (d := d) (z := z)
theorem zz_callS0q (h : zz_X V E own cc nL Ts F K ret) {y : MethodName} {rm : Room} {bytes : ByteArray} {maxL index : Nat} {ret2 : Option FieldType} {gq : Nat → Nat} {kf : Option (Option Nat × σ)} {g : Option Nat → σ → Option (α × σ)} {rest : List Value} (hM : zz_C V y (Cond.code y bytes maxL ret2 :: Ts) rm (zz_jq gq) [] st kf) (hkv : zz_kS Ts y bytes maxL ret2 0) (hlk0 : Cond.methodLink own index y ∈ Ts) (hrc : rm.cells = 0) (hrs : rm.slots = 0) (hR : rm.frames + 1 ≤ F ∧ 8 + (maxL + 11) + rm.locals ≤ K) (hcat : (rest.map fun v => v.category).sum ≤ 8) (d : decode cc pc = .ok (.invokestatic index, 3)) (z : ∀ (r : Option Nat) (st1 : σ), zz_Z V E nL 0 0 inj (g r st1) (pc + 3) L (zz_rf gq r :: rest) st1) : zz_Z V E nL 0 0 inj (zz_bd kf g) pc L (rest) st := zz_callS h (hM := hM) (hkv := hkv) (hlk0 := hlk0) (hrc := hrc) (hrs := hrs) (hR := hR) (hn := rfl) (As := []) (hstk := rfl) (hcat := hcat) (d := d) (z := z)
theorem zz_callS1i (h : zz_X V E own cc nL Ts F K ret) {y : MethodName} {rm : Room} {bytes : ByteArray} {maxL index : Nat} {ret2 : Option FieldType} {kf : Option (Int32 × σ)} {g : Int32 → σ → Option (α × σ)} {rest : List Value} {a1 : Value} (hM : zz_C V y (Cond.code y bytes maxL ret2 :: Ts) rm zz_ji [a1] st kf) (hkv : zz_kS Ts y bytes maxL ret2 1) (hlk0 : Cond.methodLink own index y ∈ Ts) (hrc : rm.cells = 0) (hrs : rm.slots = 0) (hR : rm.frames + 1 ≤ F ∧ 8 + (maxL + 11) + rm.locals ≤ K) (hcat : (rest.map fun v => v.category).sum ≤ 8) (d : decode cc pc = .ok (.invokestatic index, 3)) (z : ∀ (r : Int32) (st1 : σ), zz_Z V E nL 0 0 inj (g r st1) (pc + 3) L (.int r :: rest) st1) : zz_Z V E nL 0 0 inj (zz_bd kf g) pc L (a1 :: rest) st := zz_callS h (hM := hM) (hkv := hkv) (hlk0 := hlk0) (hrc := hrc) (hrs := hrs) (hR := hR) (hn := rfl) (As := [a1]) (hstk := rfl) (hcat := hcat) (d := d) (z := z)
theorem zz_callS1v (h : zz_X V E own cc nL Ts F K ret) {y : MethodName} {rm : Room} {bytes : ByteArray} {maxL index : Nat} {ret2 : Option FieldType} {kf : Option (Unit × σ)} {g : Unit → σ → Option (α × σ)} {rest : List Value} {a1 : Value} (hM : zz_C V y (Cond.code y bytes maxL ret2 :: Ts) rm zz_jv [a1] st kf) (hkv : zz_kS Ts y bytes maxL ret2 1) (hlk0 : Cond.methodLink own index y ∈ Ts) (hrc : rm.cells = 0) (hrs : rm.slots = 0) (hR : rm.frames + 1 ≤ F ∧ 8 + (maxL + 11) + rm.locals ≤ K) (hcat : (rest.map fun v => v.category).sum ≤ 8) (d : decode cc pc = .ok (.invokestatic index, 3)) (z : ∀ (r : Unit) (st1 : σ), zz_Z V E nL 0 0 inj (g r st1) (pc + 3) L rest st1) : zz_Z V E nL 0 0 inj (zz_bd kf g) pc L (a1 :: rest) st := zz_callS h (hM := hM) (hkv := hkv) (hlk0 := hlk0) (hrc := hrc) (hrs := hrs) (hR := hR) (hn := rfl) (As := [a1]) (hstk := rfl) (hcat := hcat) (d := d) (z := z)
theorem zz_callS1q (h : zz_X V E own cc nL Ts F K ret) {y : MethodName} {rm : Room} {bytes : ByteArray} {maxL index : Nat} {ret2 : Option FieldType} {gq : Nat → Nat} {kf : Option (Option Nat × σ)} {g : Option Nat → σ → Option (α × σ)} {rest : List Value} {a1 : Value} (hM : zz_C V y (Cond.code y bytes maxL ret2 :: Ts) rm (zz_jq gq) [a1] st kf) (hkv : zz_kS Ts y bytes maxL ret2 1) (hlk0 : Cond.methodLink own index y ∈ Ts) (hrc : rm.cells = 0) (hrs : rm.slots = 0) (hR : rm.frames + 1 ≤ F ∧ 8 + (maxL + 11) + rm.locals ≤ K) (hcat : (rest.map fun v => v.category).sum ≤ 8) (d : decode cc pc = .ok (.invokestatic index, 3)) (z : ∀ (r : Option Nat) (st1 : σ), zz_Z V E nL 0 0 inj (g r st1) (pc + 3) L (zz_rf gq r :: rest) st1) : zz_Z V E nL 0 0 inj (zz_bd kf g) pc L (a1 :: rest) st := zz_callS h (hM := hM) (hkv := hkv) (hlk0 := hlk0) (hrc := hrc) (hrs := hrs) (hR := hR) (hn := rfl) (As := [a1]) (hstk := rfl) (hcat := hcat) (d := d) (z := z)
theorem zz_callS2i (h : zz_X V E own cc nL Ts F K ret) {y : MethodName} {rm : Room} {bytes : ByteArray} {maxL index : Nat} {ret2 : Option FieldType} {kf : Option (Int32 × σ)} {g : Int32 → σ → Option (α × σ)} {rest : List Value} {a1 a2 : Value} (hM : zz_C V y (Cond.code y bytes maxL ret2 :: Ts) rm zz_ji [a1, a2] st kf) (hkv : zz_kS Ts y bytes maxL ret2 2) (hlk0 : Cond.methodLink own index y ∈ Ts) (hrc : rm.cells = 0) (hrs : rm.slots = 0) (hR : rm.frames + 1 ≤ F ∧ 8 + (maxL + 11) + rm.locals ≤ K) (hcat : (rest.map fun v => v.category).sum ≤ 8) (d : decode cc pc = .ok (.invokestatic index, 3)) (z : ∀ (r : Int32) (st1 : σ), zz_Z V E nL 0 0 inj (g r st1) (pc + 3) L (.int r :: rest) st1) : zz_Z V E nL 0 0 inj (zz_bd kf g) pc L (a2 :: a1 :: rest) st := zz_callS h (hM := hM) (hkv := hkv) (hlk0 := hlk0) (hrc := hrc) (hrs := hrs) (hR := hR) (hn := rfl) (As := [a1, a2]) (hstk := rfl) (hcat := hcat) (d := d) (z := z)
theorem zz_callS2v (h : zz_X V E own cc nL Ts F K ret) {y : MethodName} {rm : Room} {bytes : ByteArray} {maxL index : Nat} {ret2 : Option FieldType} {kf : Option (Unit × σ)} {g : Unit → σ → Option (α × σ)} {rest : List Value} {a1 a2 : Value} (hM : zz_C V y (Cond.code y bytes maxL ret2 :: Ts) rm zz_jv [a1, a2] st kf) (hkv : zz_kS Ts y bytes maxL ret2 2) (hlk0 : Cond.methodLink own index y ∈ Ts) (hrc : rm.cells = 0) (hrs : rm.slots = 0) (hR : rm.frames + 1 ≤ F ∧ 8 + (maxL + 11) + rm.locals ≤ K) (hcat : (rest.map fun v => v.category).sum ≤ 8) (d : decode cc pc = .ok (.invokestatic index, 3)) (z : ∀ (r : Unit) (st1 : σ), zz_Z V E nL 0 0 inj (g r st1) (pc + 3) L rest st1) : zz_Z V E nL 0 0 inj (zz_bd kf g) pc L (a2 :: a1 :: rest) st := zz_callS h (hM := hM) (hkv := hkv) (hlk0 := hlk0) (hrc := hrc) (hrs := hrs) (hR := hR) (hn := rfl) (As := [a1, a2]) (hstk := rfl) (hcat := hcat) (d := d) (z := z)
theorem zz_callS2q (h : zz_X V E own cc nL Ts F K ret) {y : MethodName} {rm : Room} {bytes : ByteArray} {maxL index : Nat} {ret2 : Option FieldType} {gq : Nat → Nat} {kf : Option (Option Nat × σ)} {g : Option Nat → σ → Option (α × σ)} {rest : List Value} {a1 a2 : Value} (hM : zz_C V y (Cond.code y bytes maxL ret2 :: Ts) rm (zz_jq gq) [a1, a2] st kf) (hkv : zz_kS Ts y bytes maxL ret2 2) (hlk0 : Cond.methodLink own index y ∈ Ts) (hrc : rm.cells = 0) (hrs : rm.slots = 0) (hR : rm.frames + 1 ≤ F ∧ 8 + (maxL + 11) + rm.locals ≤ K) (hcat : (rest.map fun v => v.category).sum ≤ 8) (d : decode cc pc = .ok (.invokestatic index, 3)) (z : ∀ (r : Option Nat) (st1 : σ), zz_Z V E nL 0 0 inj (g r st1) (pc + 3) L (zz_rf gq r :: rest) st1) : zz_Z V E nL 0 0 inj (zz_bd kf g) pc L (a2 :: a1 :: rest) st := zz_callS h (hM := hM) (hkv := hkv) (hlk0 := hlk0) (hrc := hrc) (hrs := hrs) (hR := hR) (hn := rfl) (As := [a1, a2]) (hstk := rfl) (hcat := hcat) (d := d) (z := z)
theorem zz_callS3i (h : zz_X V E own cc nL Ts F K ret) {y : MethodName} {rm : Room} {bytes : ByteArray} {maxL index : Nat} {ret2 : Option FieldType} {kf : Option (Int32 × σ)} {g : Int32 → σ → Option (α × σ)} {rest : List Value} {a1 a2 a3 : Value} (hM : zz_C V y (Cond.code y bytes maxL ret2 :: Ts) rm zz_ji [a1, a2, a3] st kf) (hkv : zz_kS Ts y bytes maxL ret2 3) (hlk0 : Cond.methodLink own index y ∈ Ts) (hrc : rm.cells = 0) (hrs : rm.slots = 0) (hR : rm.frames + 1 ≤ F ∧ 8 + (maxL + 11) + rm.locals ≤ K) (hcat : (rest.map fun v => v.category).sum ≤ 8) (d : decode cc pc = .ok (.invokestatic index, 3)) (z : ∀ (r : Int32) (st1 : σ), zz_Z V E nL 0 0 inj (g r st1) (pc + 3) L (.int r :: rest) st1) : zz_Z V E nL 0 0 inj (zz_bd kf g) pc L (a3 :: a2 :: a1 :: rest) st := zz_callS h (hM := hM) (hkv := hkv) (hlk0 := hlk0) (hrc := hrc) (hrs := hrs) (hR := hR) (hn := rfl) (As := [a1, a2, a3]) (hstk := rfl) (hcat := hcat) (d := d) (z := z)
theorem zz_callS3v (h : zz_X V E own cc nL Ts F K ret) {y : MethodName} {rm : Room} {bytes : ByteArray} {maxL index : Nat} {ret2 : Option FieldType} {kf : Option (Unit × σ)} {g : Unit → σ → Option (α × σ)} {rest : List Value} {a1 a2 a3 : Value} (hM : zz_C V y (Cond.code y bytes maxL ret2 :: Ts) rm zz_jv [a1, a2, a3] st kf) (hkv : zz_kS Ts y bytes maxL ret2 3) (hlk0 : Cond.methodLink own index y ∈ Ts) (hrc : rm.cells = 0) (hrs : rm.slots = 0) (hR : rm.frames + 1 ≤ F ∧ 8 + (maxL + 11) + rm.locals ≤ K) (hcat : (rest.map fun v => v.category).sum ≤ 8) (d : decode cc pc = .ok (.invokestatic index, 3)) (z : ∀ (r : Unit) (st1 : σ), zz_Z V E nL 0 0 inj (g r st1) (pc + 3) L rest st1) : zz_Z V E nL 0 0 inj (zz_bd kf g) pc L (a3 :: a2 :: a1 :: rest) st := zz_callS h (hM := hM) (hkv := hkv) (hlk0 := hlk0) (hrc := hrc) (hrs := hrs) (hR := hR) (hn := rfl) (As := [a1, a2, a3]) (hstk := rfl) (hcat := hcat) (d := d) (z := z)
theorem zz_callS3q (h : zz_X V E own cc nL Ts F K ret) {y : MethodName} {rm : Room} {bytes : ByteArray} {maxL index : Nat} {ret2 : Option FieldType} {gq : Nat → Nat} {kf : Option (Option Nat × σ)} {g : Option Nat → σ → Option (α × σ)} {rest : List Value} {a1 a2 a3 : Value} (hM : zz_C V y (Cond.code y bytes maxL ret2 :: Ts) rm (zz_jq gq) [a1, a2, a3] st kf) (hkv : zz_kS Ts y bytes maxL ret2 3) (hlk0 : Cond.methodLink own index y ∈ Ts) (hrc : rm.cells = 0) (hrs : rm.slots = 0) (hR : rm.frames + 1 ≤ F ∧ 8 + (maxL + 11) + rm.locals ≤ K) (hcat : (rest.map fun v => v.category).sum ≤ 8) (d : decode cc pc = .ok (.invokestatic index, 3)) (z : ∀ (r : Option Nat) (st1 : σ), zz_Z V E nL 0 0 inj (g r st1) (pc + 3) L (zz_rf gq r :: rest) st1) : zz_Z V E nL 0 0 inj (zz_bd kf g) pc L (a3 :: a2 :: a1 :: rest) st := zz_callS h (hM := hM) (hkv := hkv) (hlk0 := hlk0) (hrc := hrc) (hrs := hrs) (hR := hR) (hn := rfl) (As := [a1, a2, a3]) (hstk := rfl) (hcat := hcat) (d := d) (z := z)
theorem zz_callS4i (h : zz_X V E own cc nL Ts F K ret) {y : MethodName} {rm : Room} {bytes : ByteArray} {maxL index : Nat} {ret2 : Option FieldType} {kf : Option (Int32 × σ)} {g : Int32 → σ → Option (α × σ)} {rest : List Value} {a1 a2 a3 a4 : Value} (hM : zz_C V y (Cond.code y bytes maxL ret2 :: Ts) rm zz_ji [a1, a2, a3, a4] st kf) (hkv : zz_kS Ts y bytes maxL ret2 4) (hlk0 : Cond.methodLink own index y ∈ Ts) (hrc : rm.cells = 0) (hrs : rm.slots = 0) (hR : rm.frames + 1 ≤ F ∧ 8 + (maxL + 11) + rm.locals ≤ K) (hcat : (rest.map fun v => v.category).sum ≤ 8) (d : decode cc pc = .ok (.invokestatic index, 3)) (z : ∀ (r : Int32) (st1 : σ), zz_Z V E nL 0 0 inj (g r st1) (pc + 3) L (.int r :: rest) st1) : zz_Z V E nL 0 0 inj (zz_bd kf g) pc L (a4 :: a3 :: a2 :: a1 :: rest) st := zz_callS h (hM := hM) (hkv := hkv) (hlk0 := hlk0) (hrc := hrc) (hrs := hrs) (hR := hR) (hn := rfl) (As := [a1, a2, a3, a4]) (hstk := rfl) (hcat := hcat) (d := d) (z := z)
theorem zz_callS4v (h : zz_X V E own cc nL Ts F K ret) {y : MethodName} {rm : Room} {bytes : ByteArray} {maxL index : Nat} {ret2 : Option FieldType} {kf : Option (Unit × σ)} {g : Unit → σ → Option (α × σ)} {rest : List Value} {a1 a2 a3 a4 : Value} (hM : zz_C V y (Cond.code y bytes maxL ret2 :: Ts) rm zz_jv [a1, a2, a3, a4] st kf) (hkv : zz_kS Ts y bytes maxL ret2 4) (hlk0 : Cond.methodLink own index y ∈ Ts) (hrc : rm.cells = 0) (hrs : rm.slots = 0) (hR : rm.frames + 1 ≤ F ∧ 8 + (maxL + 11) + rm.locals ≤ K) (hcat : (rest.map fun v => v.category).sum ≤ 8) (d : decode cc pc = .ok (.invokestatic index, 3)) (z : ∀ (r : Unit) (st1 : σ), zz_Z V E nL 0 0 inj (g r st1) (pc + 3) L rest st1) : zz_Z V E nL 0 0 inj (zz_bd kf g) pc L (a4 :: a3 :: a2 :: a1 :: rest) st := zz_callS h (hM := hM) (hkv := hkv) (hlk0 := hlk0) (hrc := hrc) (hrs := hrs) (hR := hR) (hn := rfl) (As := [a1, a2, a3, a4]) (hstk := rfl) (hcat := hcat) (d := d) (z := z)
theorem zz_callS4q (h : zz_X V E own cc nL Ts F K ret) {y : MethodName} {rm : Room} {bytes : ByteArray} {maxL index : Nat} {ret2 : Option FieldType} {gq : Nat → Nat} {kf : Option (Option Nat × σ)} {g : Option Nat → σ → Option (α × σ)} {rest : List Value} {a1 a2 a3 a4 : Value} (hM : zz_C V y (Cond.code y bytes maxL ret2 :: Ts) rm (zz_jq gq) [a1, a2, a3, a4] st kf) (hkv : zz_kS Ts y bytes maxL ret2 4) (hlk0 : Cond.methodLink own index y ∈ Ts) (hrc : rm.cells = 0) (hrs : rm.slots = 0) (hR : rm.frames + 1 ≤ F ∧ 8 + (maxL + 11) + rm.locals ≤ K) (hcat : (rest.map fun v => v.category).sum ≤ 8) (d : decode cc pc = .ok (.invokestatic index, 3)) (z : ∀ (r : Option Nat) (st1 : σ), zz_Z V E nL 0 0 inj (g r st1) (pc + 3) L (zz_rf gq r :: rest) st1) : zz_Z V E nL 0 0 inj (zz_bd kf g) pc L (a4 :: a3 :: a2 :: a1 :: rest) st := zz_callS h (hM := hM) (hkv := hkv) (hlk0 := hlk0) (hrc := hrc) (hrs := hrs) (hR := hR) (hn := rfl) (As := [a1, a2, a3, a4]) (hstk := rfl) (hcat := hcat) (d := d) (z := z)
end ZZ
