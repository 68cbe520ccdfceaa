/-! methods with handlers: their contract, and a call of a static one -/
def zz_XW {σ : Type} (V : zz_V σ) (E : zz_E) (mc ms : Nat) : Prop :=
  match V, E with
  | (l, _, _, _, _, _, _), (_, _, R, s, _, _, _, _, _, A, mc0, ms0) => l.stackTraces = false ∧ (∀ q, s.heap.size ≤ q → A q) ∧ mc0 = mc ∧ ms0 = ms ∧ mc ≤ R.cells ∧ ms ≤ R.slots
theorem zz_metW {σ α : Type} {V : zz_V σ} {own : String} {cc : ByteArray} {Ts : List Cond} {ret : Option FieldType} {inj : α → Option Value} {xc : Nat → String} {y : MethodName} {fr lo mc ms : Nat} {av : List Value} {st : σ} {k : Option ((α ⊕ Nat) × σ)} {maxL : Nat} {hh : List (Nat × Nat × Nat × Nat)} (hV : zz_ok V) (htr : V.1.stackTraces = false) (hy : plainName y.cls = true) (hown : y.cls = own) (hlen : (lg_sl av).length ≤ maxL) (hcat : (lv_args 0 av).all (fun q => q.2.category == 1) = true)
    (body : ∀ E, zz_X V E own cc maxL Ts fr lo ret → zz_XW V E mc ms → zz_hd E hh → zz_Z V E maxL 0 0 (zz_t V E inj xc) k 0 (lv_args 0 av) [] st) : zz_CT V y (Cond.codeWith y cc maxL ret hh :: Ts) { frames := fr, cells := mc, slots := ms, locals := lo } mc ms inj xc av st k := by
  obtain ⟨l, D, cl, tys, sf, as, w⟩ := V
  intro sz o hk
  refine MetFree.of_bodyS (code := cc) (maxLocals := maxL) (ret := ret) hy ?_ ?_
  · intro args s m h hn
    obtain ⟨m9, meth, c, hn9, h1, h2, h3, h4, -, h5, h6, -⟩ := Cond.codeWith_spec (atoms_spec (ws := Cond.codeWith y cc maxL ret hh :: Ts) h _ List.mem_cons_self)
    cases hn.symm.trans hn9
    exact ⟨meth, c, h1, h2, h3, h4, h5, h6⟩
  · intro p e s m args below meth c s₁ B hml hP0 _
    obtain ⟨rfl, hsz, hP, hK, hN⟩ := hP0
    subst hsz
    have hh0 : s₁.heap = s.heap := by rw [B.state]; rfl
    have hl := lv_entry av (n := maxL) hlen
    have hne : c.exceptionTable.toList.map (fun h => (h.startPc, h.endPc, h.handlerPc, h.catchType)) = hh := by
      obtain ⟨m9, meth9, c9, hn9, h1, h2, -, -, h3, -⟩ := Cond.codeWith_spec (atoms_spec (ws := Cond.codeWith y cc maxL ret hh :: Ts) B.pre _ List.mem_cons_self)
      cases B.named.symm.trans hn9
      cases B.method.symm.trans h1
      cases (Stand.of_body B).code.symm.trans h2
      exact h3
    have hX : zz_X (l, D, cl, tys, sf, as, w) (p, e, ({ frames := fr, cells := mc, slots := ms, locals := lo } : Room), s, m, av.toArray, below, meth, c, (fun q => as q ∨ s.heap.size ≤ q), mc, ms) own cc maxL Ts fr lo ret :=
      ⟨⟨B.exec, B.bytes, hml, by rw [← hown]; exact findClass_of_methodNamed B.named, fun q hq => atoms_spec (ws := Cond.codeWith y cc maxL ret hh :: Ts) B.pre q (List.mem_cons_of_mem _ hq)⟩, hK,
        fun U lc hS hW => hV.2 s U [] hN ⟨hS.1, fun q h1 h2 => hS.2.1 q h1 (fun h3 => h3.elim h2 (fun h4 => absurd h4 (Nat.not_le.mpr h1))), fun _ h => by cases h⟩ hW, hV, fun _ h => Or.inl h, B.notSynchronized, B.returns, Nat.le_refl _, Nat.le_refl _⟩
    have hXT : zz_XW (l, D, cl, tys, sf, as, w) (p, e, ({ frames := fr, cells := mc, slots := ms, locals := lo } : Room), s, m, av.toArray, below, meth, c, (fun q => as q ∨ s.heap.size ≤ q), mc, ms) mc ms := ⟨htr, fun _ h => Or.inr h, rfl, rfl, Nat.le_refl _, Nat.le_refl _⟩
    have hz := body _ hX hXT hne o hk s.heap [] _ hP va_S.rf (zz_has_of hl hcat)
    rw [← lg_entry_eq] at hz
    obtain ⟨t, a1, oc, b1, b2, b3, b4⟩ := hz s₁ hh0 (Stand.of_body B)
    exact ⟨t, oc, a1, b1, b2, b3, b4⟩
theorem zz_inlW {σ α : Type} {V : zz_V σ} {E : zz_E} {nL cn sn mc ms : Nat} {inj : α → Option Value} {xc : Nat → String} {pc : Nat} {L : List (Nat × Value)} {stk : List Value} {st st1 : σ} {r : α} (hW : zz_XW V E mc ms) (hc : cn ≤ mc) (hs : sn ≤ ms) (z : ∀ (p : Program) (e : Env) (R : Room) (s : State) (m : MethodId) (args : Array Value) (below : List Frame) (meth : Method) (c : Code) (A : Nat → Prop), E = (p, e, R, s, m, args, below, meth, c, A, mc, ms) → zz_Z V E nL mc ms (zz_q V E inj) (some (r, st1)) pc L stk st) : zz_Z V E nL cn sn (zz_t V E inj xc) (some (.inl r, st1)) pc L stk st := by
  obtain ⟨l, D, cl, tys, sf, as, w⟩ := V
  obtain ⟨p, e, R, s, m, args, below, meth, c, A, mc0, ms0⟩ := E
  obtain ⟨-, -, rfl, rfl, -, -⟩ := hW
  exact zz_widen hc hs (zz_inl (z p e R s m args below meth c A rfl))
/-- a return at the full count -/
theorem zw_iret {σ : Type} {V : zz_V σ} {E : zz_E} {own : String} {cc : ByteArray} {nL F K mc ms cn sn : Nat} {Ts : List Cond} {pc : Nat} {L : List (Nat × Value)} {st : σ} {xc : Nat → String} (h : zz_X V E own cc nL Ts F K (some .int)) (hW : zz_XW V E mc ms) (hc : cn ≤ mc) (hs : sn ≤ ms) {v : Int32} (d : decode cc pc = .ok (.ireturn, 1)) : zz_Z V E nL cn sn (zz_t V E zz_ji xc) (some (.inl v, st)) pc L [.int v] st := by
  refine zz_widen hc hs (zz_inl ?_)
  obtain ⟨l, D, cl, tys, sf, as, w⟩ := V
  obtain ⟨p, e, R, s, m, args, below, meth, c, A, mc0, ms0⟩ := E
  obtain ⟨⟨hx, hb, hml, hown, hts⟩, hK, hN, ⟨hD, hsf⟩, hA, hlk, hret, hF, hKl⟩ := h
  obtain ⟨-, -, rfl, rfl, -, -⟩ := hW
  intro o hk H locs ls hP hS hl
  cases hk
  show W p l e R s m args below meth c H locs mc0 ms0 (MQ below (fun _ s0 oc t => (oc = .returned (zz_ji v) ∧ va_P D cl (w st) t.heap) ∧ va_F A s0 t) args s mc0 ms0 A) _
  exact W.iret hx hb hret (fun t ht hW => ⟨⟨rfl, by rw [ht]; exact hP⟩, hS.F ht⟩) hS.2.2 d (hlocks := hlk)
section ZSW
variable {p : Program} {l : Launch} {e : Env} {R : Room} {s : State} {m : MethodId} {args : Array Value} {below : List Frame} {meth : Method} {c : Code} {T : State} {locs : List Loc} {cells slots : Nat}
theorem zx_callSW (X : Stand p l e R s m args below meth c T locs cells slots) (hexec : p.tables.exec = Jvm.exec) {own : String} {index : Nat} {y : MethodName} {bytes : ByteArray} {maxL : Nat} {ret : Option FieldType} {hh : List (Nat × Nat × Nat × Nat)}
    (hown : s.vm.findClass own = some m.cls) (hlink : (Cond.methodLink own index y).before args s = true) (hstat : (Cond.static y).before args s = true) (hinit : (Cond.initialized y.cls).before args s = true)
    (hcode : (Cond.codeWith y bytes maxL ret hh).before args s = true) (hy : y.cls ≠ "java/lang/invoke/MethodHandle" ∧ y.cls ≠ "java/lang/invoke/VarHandle")
    {W : Nat} {Pre : Pt → Array Value → Prop} {Post : Pt → Array Value → Option Value → Pt → Prop} (hK : Back l R p e below s args y 3 W Pre Post)
    {g : JFrame} (hg : g.method = m) (hsize : g.locals.size = c.maxLocals) {argsL rest : List Value} (hlen : ∀ sig, parseMethodDescriptor y.desc = some sig → argsL.length = sig.parameters.length)
    (hstack : g.stack = argsL.reverse ++ rest) (hW : 2 * g.monitorRoom + (rest.map fun v => v.category).sum ≤ W) (hdg : decode c.code g.pc = .ok (.invokestatic index, 3))
    (hpre : ∀ vm₁, s.WarmedH vm₁ → Pre ⟨T.setVm vm₁, locs, cells, slots⟩ argsL.toArray) :
    ∃ (v : Option Value) (vm₁ : Vm) (B : Pt), s.WarmedH vm₁ ∧ Stand p l e R s m args below meth c B.U B.locs B.cells B.slots ∧ Post ⟨T.setVm vm₁, locs, cells, slots⟩ argsL.toArray v B ∧
      ∀ target, Steps p.tables e below (B.U.setTop { g with pc := g.pc + 3, stack := v.toList ++ rest }) target → Steps p.tables e below (T.setTop g) target := by
  obtain ⟨mk, methM, cM, hnamed, hmethM, -, -, -, -, -, -, hsigM⟩ := Cond.codeWith_spec hcode
  have hstatic : methM.isStatic = true := Cond.static_spec hnamed hmethM hstat
  obtain ⟨kP, hkP, -⟩ := className_of_methodNamed hnamed
  have hinitP : kP.init = .initialized := Cond.initialized_spec (findClass_of_methodNamed hnamed) hkP hinit
  obtain ⟨vm₁, X₁, hstep₁⟩ := X.invokestatic hexec hown hlink hnamed hmethM hstatic hkP hinitP hy (g := g) hg (argsL := argsL) (rest := rest) (hlen _ hsigM) hstack hdg
  obtain ⟨v, B, X', hpost, hsteps⟩ := hK m meth c ⟨T.setVm vm₁, locs, cells, slots⟩ { g with stack := rest } (.invokestatic index) mk argsL.toArray X₁ hg hsize hdg hW (X₁.named hnamed) (hpre vm₁ X₁.warmed)
  exact ⟨v, vm₁, B, X₁.warmed, X', hpost, fun target h => hstep₁ _ fun acts => by rw [doInvoke_state]; exact hsteps.trans h⟩
end ZSW
def zz_kW (Ts : List Cond) (y : MethodName) (bytes : ByteArray) (maxL : Nat) (ret : Option FieldType) (hh : List (Nat × Nat × Nat × Nat)) (n : Nat) : Prop := (∀ w ∈ Ts, goodWord w = true) ∧ Cond.codeWith y bytes maxL ret hh ∈ Ts ∧ Cond.static y ∈ Ts ∧ Cond.initialized y.cls ∈ Ts ∧ (y.cls ≠ "java/lang/invoke/MethodHandle" ∧ y.cls ≠ "java/lang/invoke/VarHandle" ∧ (parseMethodDescriptor y.desc).map (fun d => d.parameters.length) = some n)
section ZL2
variable {σ α β : Type} {V : zz_V σ} {E : zz_E} {own : String} {cc : ByteArray} {nL F K cn sn : Nat} {Ts : List Cond} {ret : Option FieldType} {inj : α × σ → State → Prop} {pc : Nat} {L : List (Nat × Value)} {stk : List Value} {st : σ}
theorem zg_callSW (h : zz_X V E own cc nL Ts F K ret) {y : MethodName} {rm : Room} {bytes : ByteArray} {maxL index n mc ms : Nat} (hcs : zz_cs E (cn + mc) (sn + ms)) {ret2 : Option FieldType} {hh : List (Nat × Nat × Nat × Nat)} {inj2 : β → Option Value} {xc : Nat → String} {kf : Option ((β ⊕ Nat) × σ)} {g : β → σ → Option (α × σ)} {rest : List Value} {As : List Value} (hM : zz_CT V y (Cond.codeWith y bytes maxL ret2 hh :: Ts) rm mc ms inj2 xc As st kf) (hkv : zz_kW Ts y bytes maxL ret2 hh n) (hlk0 : Cond.methodLink own index y ∈ Ts) (hrc : rm.cells = mc) (hrs : rm.slots = ms) (hR : rm.frames + 1 ≤ F ∧ 8 + (maxL + 11) + rm.locals ≤ K) (hn : As.length = n) (hstk : stk = As.reverse ++ rest) (hcat : (rest.map fun v => v.category).sum ≤ 8) (d : decode cc pc = .ok (.invokestatic index, 3))
    (hnew : ∀ q, E.2.2.2.1.heap.size ≤ q → E.2.2.2.2.2.2.2.2.2.1 q)
    (z : ∀ (r : β) (st1 : σ), zz_Z V E nL (cn + mc) (sn + ms) inj (g r st1) (pc + 3) L ((inj2 r).toList ++ rest) st1) : zz_Z V E nL cn sn inj (zz_bt kf g (fun _ _ => none)) pc L stk st := by
  obtain ⟨l, D, cl, tys, sf, as, w⟩ := V
  obtain ⟨p, e, R, s, m, args, below, meth, c, A, mc0, ms0⟩ := E
  obtain ⟨⟨hx, hb, hml, hown, hts⟩, hK, hN, ⟨hD, hsf⟩, hA, hlk, hret, hF, hKl⟩ := h
  intro o hk H locs ls hP hS hl
  have hroom : 2 * (F0 m pc ls stk).monitorRoom + (rest.map fun v => v.category).sum ≤ 8 := lv_room hcat
  have hFB : FrameBlind (va_Pc As (fun U => U.heap.size = H.size ∧ va_P D cl (w st) U.heap ∧ va_K D cl tys U ∧ sf U)) := fun a U g mk q => by
    obtain ⟨q0, qz, qP, qK, qN⟩ := q
    exact ⟨q0, qz, qP, va_K.moved (u := U) (U := U.calling g mk a) (Vm.Alike.refl U.vm) qK, hsf U (U.calling g mk a) [] qN va_S.rf (State.WarmedH.refl U)⟩
  have hpre : ∀ U : State, U.heap = H → s.WarmedH U.vm → va_Pc As (fun U => U.heap.size = H.size ∧ va_P D cl (w st) U.heap ∧ va_K D cl tys U ∧ sf U) As.toArray U := fun U hU hW => ⟨rfl, by rw [hU], by rw [hU]; exact hP, va_K.moved hW.alike hK, hN U locs (by rw [hU]; exact hS) hW⟩
  have hA1 : ∀ q, (as q ∨ H.size ≤ q) → A q := fun q hq => hq.elim (fun h => hA q h) (fun h => hnew q (Nat.le_trans hS.1 h))
  cases hkf : kf with
  | none => rw [hkf] at hk; cases hk
  | some q =>
    obtain ⟨res, st'⟩ := q
    cases res with
    | inr i => rw [hkf] at hk; cases hk
    | inl r =>
      rw [hkf] at hk
      have hM1 := zx_met hM H.size hkf
      have hws : ∀ q ∈ (Cond.codeWith y bytes maxL ret2 hh :: Ts), ∀ (a' : Array Value) (U : State), s.WarmedH U.vm → q.before a' U = true := fun q hq a' U hW => by
        have hq' : q ∈ Ts := (List.mem_cons.mp hq).elim (fun h => h ▸ hkv.2.1) id
        exact word_at hW (good_of_word (hkv.1 q hq')) (hts q hq')
      have hBk : Back l R p e below s args y 3 8 (PreOf R mc ms (va_Pc As (fun U => U.heap.size = H.size ∧ va_P D cl (w st) U.heap ∧ va_K D cl tys U ∧ sf U))) (PostOf (fun _ s0 oc t => (oc = .returned (inj2 r) ∧ va_P D cl (w st') t.heap) ∧ va_F (fun q => as q ∨ H.size ≤ q) s0 t) mc ms (fun q => as q ∨ H.size ≤ q)) :=
        va_backW (bytes := bytes) (maxL := maxL) (ret := ret2) (hh := hh) hM1 hFB hrc hrs (Nat.le_trans hR.1 hF) (Nat.le_trans hR.2 hKl) hws List.mem_cons_self (fun a' U hW => word_at hW (Or.inl (by first | rfl | simp [Cond.onTables, Cond.keeps, Cond.steady])) (hts _ hkv.2.2.2.1))
      have hrun : va_Run p l e R s m args below meth c H locs cn sn mc ms (F0 m pc ls stk) rest (fun s0 oc t => (oc = .returned (inj2 r) ∧ va_P D cl (w st') t.heap) ∧ va_F (fun q => as q ∨ H.size ≤ q) s0 t) (fun q => as q ∨ H.size ≤ q) := by
        intro T hT X
        obtain ⟨v, vm₁, ⟨U', l2, c2, s2⟩, hW₁, X', ⟨g', mk, t, L, e1, e2, hq, h1, hL, h2, h3⟩, st⟩ := zx_callSW X hx hown (hts _ hlk0) (hts _ hkv.2.2.1) (hts _ hkv.2.2.2.1) (hts _ hkv.2.1) ⟨hkv.2.2.2.2.1, hkv.2.2.2.2.2.1⟩ hBk (g := F0 m pc ls stk) rfl (hl.1.trans hml.symm) (argsL := As) (rest := rest)
          (fun sig h => by have h2 := hkv.2.2.2.2.2.2; rw [h] at h2; exact hn.trans (Option.some.inj h2).symm) hstk hroom (by rw [hb]; exact d) (fun vm₁ hW₁ => ⟨hcs.1, hcs.2, hpre (T.setVm vm₁) hT hW₁⟩)
        dsimp only [Pt.U, Pt.locs, Pt.cells, Pt.slots] at X' e1 e2 h1 h2 h3 st
        subst h1; subst h2; subst h3
        exact ⟨v, (T.setVm vm₁).calling g' mk As.toArray, t, U', L, hT, X', hL, e1, e2, hq, st⟩
      refine zz_back (v := inj2 r) (P := fun H => va_P D cl (w st') H) hrun hS hA1 (fun H1 locs1 hP1 hS1 => ?_)
      exact z r st' o hk H1 locs1 ls hP1 hS1 hl
end ZL2
