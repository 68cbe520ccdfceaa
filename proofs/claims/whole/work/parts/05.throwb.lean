/-! statics that hold a reference or null, in cells apart from a set -/
def zx_Z (C n d : String) (B : Nat → Prop) (U : State) (H : Heap) : Prop := ∃ (c : ClassId) (k : Class) (i : Nat) (f : Field) (a : Nat) (cell : Cell) (v : Value), U.vm.findClass C = some c ∧ U.fieldFound? C n d = some (c, k, i, f) ∧ f.isStatic = true ∧ k.statics = some a ∧ H[a]? = some cell ∧ cell.vm.isStatics = true ∧ cell.cls = c ∧ f.slot < cell.slots.size ∧ k.staticTypes[f.slot]? = some f.type ∧ cell.slots[f.slot]? = some v ∧ v.isRef = true ∧ ¬ B a
theorem zx_Z.kept {C n d : String} {B : Nat → Prop} {U : State} {H H1 : Heap} (h : zx_Z C n d B U H) (hq : ∀ a : Nat, a < H.size → ¬ B a → H1[a]? = H[a]?) : zx_Z C n d B U H1 := by
  obtain ⟨c, k, i, f, a, cell, v, h1, h2, h3, h4, h5, h6, h7, h8, h9, h10, h11, h12⟩ := h
  exact ⟨c, k, i, f, a, cell, v, h1, h2, h3, h4, by rw [hq a (Array.getElem?_eq_some_iff.mp h5).1 h12]; exact h5, h6, h7, h8, h9, h10, h11, h12⟩
theorem zx_Z.moved {C n d : String} {B : Nat → Prop} {u U : State} {H : Heap} (hvm : u.vm.Alike U.vm) (h : zx_Z C n d B u H) : zx_Z C n d B U H := by
  obtain ⟨c, k, i, f, a, cell, v, h1, h2, h3, h4, h5, h6, h7, h8, h9, h10, h11, h12⟩ := h
  obtain ⟨k', hi', he⟩ := State.fieldFound?_setVm hvm h2
  exact ⟨c, k', i, f, a, cell, v, by rw [hvm.findClass]; exact h1, hi', h3, by rw [he]; exact h4, h5, h6, h7, h8, by rw [he]; exact h9, h10, h11, h12⟩
theorem zx_Z.narrow {C n d : String} {A B : Nat → Prop} {U : State} {H : Heap} (h : zx_Z C n d A U H) (hAB : ∀ q, B q → A q) : zx_Z C n d B U H := by
  obtain ⟨c, k, i, f, a, cell, v, h1, h2, h3, h4, h5, h6, h7, h8, h9, h10, h11, h12⟩ := h
  exact ⟨c, k, i, f, a, cell, v, h1, h2, h3, h4, h5, h6, h7, h8, h9, h10, h11, fun z => h12 (hAB a z)⟩
theorem zx_Z.lays {C n d : String} {B : Nat → Prop} {U : State} (h : zx_Z C n d B U U.heap) (A : Array Value) : (Cond.laysStatic C n d).before A U = true := by
  obtain ⟨c, k, i, f, a, cell, v, h1, h2, h3, h4, h5, h6, h7, h8, h9, h10, h11, h12⟩ := h
  exact Cond.laysStatic_of h1 h2 h3 h4 h5 h6 h7 h8 h9
theorem zx_Z.ref {C n d : String} {B : Nat → Prop} {U : State} (h : zx_Z C n d B U U.heap) (A : Array Value) : (Cond.isRef (.static C n d)).before A U = true := by
  obtain ⟨c, k, i, f, a, cell, v, h1, h2, h3, h4, h5, h6, h7, h8, h9, h10, h11, h12⟩ := h
  have hv : (Term.static C n d).eval A U none [] U = some v := by
    simp [Term.eval, State.fieldNamed?, h2, h3, h4, h5, h6, h10]
  cases v <;> first | (simp [Cond.before, Cond.holds, Cond.value, hv]; done) | (simp [Value.isRef] at h11)
theorem zx_Zof {A : Array Value} {s : State} {C n d : String} {B : Nat → Prop} (hl : (Cond.laysStatic C n d).before A s = true) (hr : (Cond.isRef (.static C n d)).before A s = true) (hB : ∀ a : Nat, a < s.heap.size → ¬ B a) : zx_Z C n d B s s.heap := by
  obtain ⟨c, k, i, f, a, cell, h1, h2, h3, h4, h5, h6, h7, h8, h9⟩ := Cond.laysStatic_spec hl
  cases hv : (Term.static C n d).eval A s none [] s with
  | none => simp [Cond.before, Cond.holds, Cond.value, hv] at hr
  | some v =>
    obtain ⟨-, a', cell', ha', hcell', -, hslot⟩ := Term.static_spec h2 hv
    cases h4.symm.trans ha'
    cases h5.symm.trans hcell'
    refine ⟨c, k, i, f, a, cell, v, h1, h2, h3, h4, h5, h6, h7, h8, h9, hslot, ?_, hB a (Array.getElem?_eq_some_iff.mp h5).1⟩
    cases v <;> first | rfl | (simp [Cond.before, Cond.holds, Cond.value, hv] at hr)
/-! methods that may throw -/
def zz_out {α : Type} (inj : α → Option Value) (xc : Nat → String) (r : α ⊕ Nat) (s0 : State) (oc : Outcome) (t : State) : Prop := match r with
  | .inl v => oc = .returned (inj v)
  | .inr n => ∃ (x : Nat) (ce : Cell), oc = .threw x ∧ t.heap[x]? = some ce ∧ s0.vm.findClass (xc n) = some ce.cls ∧ ce.vm.isStatics = false ∧ s0.heap.size ≤ x
def zz_t {σ α : Type} (V : zz_V σ) (E : zz_E) (inj : α → Option Value) (xc : Nat → String) (o : (α ⊕ Nat) × σ) : State → Prop :=
  match V, E with
  | (_, D, cl, _, _, _, w), (_, _, _, s, _, _, below, _, _, A, mc, ms) => fun t => ∃ oc, t.status = .running ∧ Ended t below oc ∧ (zz_out inj xc o.1 s oc t ∧ va_P D cl (w o.2) t.heap ∧ va_F A s t) ∧ s.WarmedH t.vm ∧ ∃ Lc, s.sameButNew ({ t with vm := s.vm } : State) Lc mc ms ∧ ∀ q ∈ Lc, A q.base
def zz_XT {σ : Type} (V : zz_V σ) (E : zz_E) : Prop :=
  match V, E with
  | (l, _, _, _, _, _, _), (_, _, R, s, _, _, _, _, c, A, mc, ms) => l.stackTraces = false ∧ c.exceptionTable.isEmpty = true ∧ (∀ q, s.heap.size ≤ q → A q) ∧ 1 ≤ mc ∧ 6 ≤ ms ∧ mc ≤ R.cells ∧ ms ≤ R.slots
def zz_CT {σ α : Type} (V : zz_V σ) (y : MethodName) (ws : List Cond) (rm : Room) (mc ms : Nat) (inj : α → Option Value) (xc : Nat → String) (av : List Value) (st : σ) (k : Option ((α ⊕ Nat) × σ)) : Prop :=
  match V with
  | (l, D, cl, tys, sf, as, w) => ∀ (sz : Nat) (o : (α ⊕ Nat) × σ), k = some o → MetFree l y (headSpec ws rm) (va_Pc av (fun U => U.heap.size = sz ∧ va_P D cl (w st) U.heap ∧ va_K D cl tys U ∧ sf U)) (fun _ _ _ _ _ => True)
      (fun _ s0 oc t => (zz_out inj xc o.1 s0 oc t ∧ va_P D cl (w o.2) t.heap ∧ va_F (fun q => as q ∨ sz ≤ q) s0 t) ∧ s0.WarmedH t.vm ∧ ∃ Lc, s0.sameButNew ({ t with vm := s0.vm } : State) Lc mc ms ∧ ∀ q ∈ Lc, as q.base ∨ sz ≤ q.base)
section ZT
variable {σ α : Type} {V : zz_V σ} {E : zz_E} {own : String} {cc : ByteArray} {nL F K cn sn : Nat} {Ts : List Cond} {ret : Option FieldType} {inj : α → Option Value} {xc : Nat → String} {pc : Nat} {L : List (Nat × Value)} {stk : List Value} {st st1 : σ}
theorem zz_inl {r : α} (z : zz_Z V E nL cn sn (zz_q V E inj) (some (r, st1)) pc L stk st) : zz_Z V E nL cn sn (zz_t V E inj xc) (some (.inl r, st1)) pc L stk st := by
  obtain ⟨l, D, cl, tys, sf, as, w⟩ := V
  obtain ⟨p, e, R, s, m, args, below, meth, c, A, mc, ms⟩ := E
  intro o hk H locs ls hP hS hl
  cases hk
  intro T hT X
  obtain ⟨t, hst, oc, a1, a2, ⟨⟨a3, a4⟩, a5⟩, Lc, ⟨_, a6, a7⟩, a8⟩ := z (r, st1) rfl H locs ls hP hS hl T hT X
  exact ⟨t, hst, oc, a1, a2, ⟨a3, a4, a5⟩, a6, Lc, a7, a8⟩
theorem zz_thr (h : zz_X V E own cc nL Ts F K ret) (hT : zz_XT V E) (n : Nat) {cls : String} {names : List String} {inw ic : Nat} (hxc : xc n = cls) (hcls : Bundle.fit cls = true) (hnames : ∀ n ∈ names, Bundle.fit n = true) (hgood : ∀ w ∈ Ts, goodWord w = true)
    (hin : ∀ a ∈ zz_thA own cls names inw ic, a ∈ Ts ∨ ∀ (U : State) (A0 : Array Value), zz_sf V U → a.before A0 U = true) (hF1 : names.length + 3 < F) (hK1 : 1 + (13 * (names.length + 1) + 41) ≤ K)
    (d0 : decode cc pc = .ok (.new inw, 3)) (d3 : decode cc (pc + 3) = .ok (.dup, 1)) (d4 : decode cc (pc + 3 + 1) = .ok (.invokespecial ic, 3)) (d7 : decode cc (pc + 3 + 1 + 3) = .ok (.athrow, 1)) :
    zz_Z V E nL 0 0 (zz_t V E inj xc) (some (.inr n, st)) pc L [] st := by
  obtain ⟨l, D, cl, tys, sf, as, w⟩ := V
  obtain ⟨p, e, R, s, m, args, below, meth, c, A, mc, ms⟩ := E
  obtain ⟨⟨hx, hb, hml, hown, hts⟩, hK, hN, ⟨hD, hsf⟩, hA, hlk, hret, hF, hKl⟩ := h
  obtain ⟨t1, t2, t3, t4, t5, t6, t7⟩ := hT
  intro o hk H locs ls hP hS hl
  cases hk
  refine zz_Wthrow hx hb t1 (by omega) (by omega) hown hcls hnames d0 d3 d4 d7 t2 hlk (hl.1.trans hml.symm) (Nat.lt_of_lt_of_le hF1 hF) (Nat.le_trans hK1 hKl) ?_ ?_
  · intro T hT0 hW a ha
    rcases hin a ha with h | h
    · exact word_at hW (good_of_word (hgood a h)) (hts a h)
    · exact h T args (hN T locs (by rw [hT0]; exact hS) hW)
  · intro U x ce h1 h2 h3 h4 h5 h6 h7 h8 h9 h10
    refine ⟨.threw x, h1, h2, ⟨⟨x, ce, rfl, h3, by rw [hxc]; exact h4, h5, Nat.le_trans hS.1 h6⟩, hP.kept (fun k q hq => h7 q.1 (hP k q hq).lt), ⟨Nat.le_trans hS.1 h8, fun q q1 q2 => (h7 q (Nat.lt_of_lt_of_le q1 hS.1)).trans (hS.2.1 q q1 q2)⟩⟩, h9, locs, h10.mono (by omega) (by omega), hS.2.2⟩
theorem zz_metT {V : zz_V σ} {y : MethodName} {fr lo mc ms : Nat} {av : List Value} {st : σ} {k : Option ((α ⊕ Nat) × σ)} {maxL : Nat} (hV : zz_ok V) (htr : V.1.stackTraces = false) (hy : plainName y.cls = true) (hown : y.cls = own) (hlen : (lg_sl av).length ≤ maxL) (hcat : (lv_args 0 av).all (fun q => q.2.category == 1) = true) (hm1 : 1 ≤ mc) (hm2 : 6 ≤ ms)
    (body : ∀ E, zz_X V E own cc maxL Ts fr lo ret → zz_XT V E → zz_Z V E maxL 0 0 (zz_t V E inj xc) k 0 (lv_args 0 av) [] st) : zz_CT V y (Cond.code y cc maxL ret :: Ts) { frames := fr, cells := mc, slots := ms, locals := lo } mc ms inj xc av st k := by
  obtain ⟨l, D, cl, tys, sf, as, w⟩ := V
  intro sz o hk
  refine MetFree.of_bodyS (code := cc) (maxLocals := maxL) (ret := ret) hy ?_ ?_
  · intro args s m h hn
    obtain ⟨meth, c, h1, h2, h3, h4, h5, h6, -, -⟩ := Cond.code_spec hn (atoms_spec (ws := Cond.code y cc maxL ret :: Ts) h _ List.mem_cons_self)
    exact ⟨meth, c, h1, h2, h3, h4, h5, h6⟩
  · intro p e s m args below meth c s₁ B hml hP0 _
    obtain ⟨rfl, hsz, hP, hK, hN⟩ := hP0
    subst hsz
    have hh0 : s₁.heap = s.heap := by rw [B.state]; rfl
    have hl := lv_entry av (n := maxL) hlen
    have hne : c.exceptionTable.isEmpty = true := B.noHandlers (atoms_spec (ws := Cond.code y cc maxL ret :: Ts) B.pre _ List.mem_cons_self)
    have hX : zz_X (l, D, cl, tys, sf, as, w) (p, e, ({ frames := fr, cells := mc, slots := ms, locals := lo } : Room), s, m, av.toArray, below, meth, c, (fun q => as q ∨ s.heap.size ≤ q), mc, ms) own cc maxL Ts fr lo ret :=
      ⟨⟨B.exec, B.bytes, hml, by rw [← hown]; exact findClass_of_methodNamed B.named, fun q hq => atoms_spec (ws := Cond.code y cc maxL ret :: Ts) B.pre q (List.mem_cons_of_mem _ hq)⟩, hK,
        fun U lc hS hW => hV.2 s U [] hN ⟨hS.1, fun q h1 h2 => hS.2.1 q h1 (fun h3 => h3.elim h2 (fun h4 => absurd h4 (Nat.not_le.mpr h1))), fun _ h => by cases h⟩ hW, hV, fun _ h => Or.inl h, B.notSynchronized, B.returns, Nat.le_refl _, Nat.le_refl _⟩
    have hXT : zz_XT (l, D, cl, tys, sf, as, w) (p, e, ({ frames := fr, cells := mc, slots := ms, locals := lo } : Room), s, m, av.toArray, below, meth, c, (fun q => as q ∨ s.heap.size ≤ q), mc, ms) := ⟨htr, hne, fun _ h => Or.inr h, hm1, hm2, Nat.le_refl _, Nat.le_refl _⟩
    have hz := body _ hX hXT o hk s.heap [] _ hP va_S.rf (zz_has_of hl hcat)
    rw [← lg_entry_eq] at hz
    obtain ⟨t, a1, oc, b1, b2, b3, b4⟩ := hz s₁ hh0 (Stand.of_body B)
    exact ⟨t, oc, a1, b1, b2, b3, b4⟩
end ZT
def zx_n : List Cond := [.declares (Bundle.init0 "java/lang/RuntimeException"), .declares (Bundle.init0 "java/lang/Exception"), .declares (Bundle.init0 "java/lang/Throwable"), .castable "java/lang/IndexOutOfBoundsException" "java/lang/IndexOutOfBoundsException", .castable "java/lang/IllegalStateException" "java/lang/IllegalStateException", .castable "java/lang/IllegalArgumentException" "java/lang/IllegalArgumentException"]
theorem zx_nm {u U : State} (hW : u.WarmedH U.vm) (h : ∀ w ∈ zx_n, va_Nw w u) : ∀ w ∈ zx_n, va_Nw w U := by
  intro w hw
  have h0 := h w hw
  simp only [zx_n, List.mem_cons, List.not_mem_nil, or_false] at hw
  rcases hw with rfl | rfl | rfl | rfl | rfl | rfl
  · exact va_Nw.warmD hW h0
  · exact va_Nw.warmD hW h0
  · exact va_Nw.warmD hW h0
  · exact va_Nw.warmC hW h0
  · exact va_Nw.warmC hW h0
  · exact va_Nw.warmC hW h0
theorem zx_nu {U : State} (h : ∀ w ∈ zx_n, va_Nw w U) {w : Cond} (hw : w ∈ zx_n) (A : Array Value) : w.before A U = true := by
  have h0 := h w hw
  simp only [zx_n, List.mem_cons, List.not_mem_nil, or_false] at hw
  rcases hw with rfl | rfl | rfl | rfl | rfl | rfl <;> exact va_Nw.use rfl h0
