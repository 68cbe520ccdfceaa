/-! calls at any count of cells; calls of methods that may throw -/
def zz_bt {α β σ : Type} (x : Option ((α ⊕ Nat) × σ)) (f : α → σ → Option (β × σ)) (g : Nat → σ → Option (β × σ)) : Option (β × σ) := match x with
  | none => none
  | some (.inl a, s) => f a s
  | some (.inr n, s) => g n s
def zz_lf {α σ τ : Type} (put : σ → τ) (k : Option (α × σ)) : Option (α × τ) := match k with
  | none => none
  | some a => some (a.1, put a.2)
theorem zz_lf_some {α σ τ : Type} {put : σ → τ} {k : Option (α × σ)} {o : α × τ} (h : zz_lf put k = some o) : ∃ a s, k = some (a, s) ∧ o = (a, put s) := by
  cases k with
  | none => cases h
  | some a => cases h; exact ⟨a.1, a.2, rfl, rfl⟩
def zz_cs (E : zz_E) (cn sn : Nat) : Prop := cn ≤ E.2.2.1.cells ∧ sn ≤ E.2.2.1.slots
theorem va_P_app {D : va_G} {cl : List vw_C} {a b : va_W} {H : Heap} : va_P D cl (a ++ b) H ↔ va_P D cl a H ∧ va_P D cl b H := by
  constructor
  · intro h
    refine ⟨fun k q hq => h k q ?_, fun k q hq => h (a.length + k) q ?_⟩
    · have hk : k < a.length := (List.getElem?_eq_some_iff.mp hq).1
      rw [List.getElem?_append_left hk]; exact hq
    · rw [List.getElem?_append_right (Nat.le_add_right _ _), Nat.add_sub_cancel_left]; exact hq
  · rintro ⟨h1, h2⟩
    exact h1.app h2
section ZL
variable {σ α β : Type} {V : zz_V σ} {E : zz_E} {own : String} {cc : ByteArray} {nL F K cn sn : Nat} {Ts : List Cond} {ret : Option FieldType} {inj : α × σ → State → Prop} {k : Option (α × σ)} {pc : Nat} {L : List (Nat × Value)} {stk : List Value} {st : σ}
theorem zz_widen {cm sm : Nat} (hc : cn ≤ cm) (hs : sn ≤ sm) (z : zz_Z V E nL cm sm inj k pc L stk st) : zz_Z V E nL cn sn inj k pc L stk st := by
  obtain ⟨l, D, cl, tys, sf, as, w⟩ := V
  obtain ⟨p, e, R, s, m, args, below, meth, c, A, mc, ms⟩ := E
  intro o hk H locs ls hP hS hl
  exact W.widen hc hs (z o hk H locs ls hP hS hl)
theorem zg_callV (h : zz_X V E own cc nL Ts F K ret) (hcs : zz_cs E cn sn) {y : MethodName} {rm : Room} {bytes : ByteArray} {maxL index n : Nat} {ret2 : Option FieldType} {inj2 : β → Option Value} {kf : Option (β × σ)} {g : β → σ → Option (α × σ)} {rest : List Value} {As : List Value} {C : String} {b q0 ci : Nat} {T : u_T} {N : Nat} {fs : List Value} (he : (zz_w V st)[q0]? = some (b, .inr (ci, fs))) (hcl : (zz_cl V)[ci]? = some (C, T, N)) (hM : zz_C V y (Cond.code y bytes maxL ret2 :: Ts) rm inj2 (.ref b :: As) st kf) (hkv : zz_kV Ts y bytes maxL ret2 C n) (hlk0 : Cond.methodLink own index y ∈ Ts) (hrc : rm.cells = 0) (hrs : rm.slots = 0) (hR : rm.frames + 1 ≤ F ∧ 8 + (maxL + 11) + rm.locals ≤ K) (hn : As.length = n) (hstk : stk = As.reverse ++ .ref b :: rest) (hcat : (rest.map fun v => v.category).sum ≤ 8) (d : decode cc pc = .ok (.invokevirtual index, 3)) (z : ∀ (r : β) (st1 : σ), zz_Z V E nL cn sn inj (g r st1) (pc + 3) L ((inj2 r).toList ++ rest) st1) : zz_Z V E nL cn sn inj (zz_bd kf g) pc L stk st := by
  obtain ⟨l, D, cl, tys, sf, as, w⟩ := V
  obtain ⟨p, e, R, s, m, args, below, meth, c, A, mc, ms⟩ := E
  obtain ⟨⟨hx, hb, hml, hown, hts⟩, hK, hN, ⟨hD, hsf⟩, hA, hlk, hret, hF, hKl⟩ := h
  intro o hk H locs ls hP hS hl
  obtain ⟨r, st', e1, e2⟩ := zz_bd_some hk
  have hM := hM (r, st') e1
  have hroom : 2 * (F0 m pc ls stk).monitorRoom + (rest.map fun v => v.category).sum ≤ 8 := lv_room hcat
  have hFB : FrameBlind (va_Pc (.ref b :: As) (fun U => va_P D cl (w st) U.heap ∧ va_K D cl tys U ∧ sf U)) := fun a U g mk q => by
    obtain ⟨q0, qP, qK, qN⟩ := q
    exact ⟨q0, qP, va_K.moved (u := U) (U := U.calling g mk a) (Vm.Alike.refl U.vm) qK, hsf U (U.calling g mk a) [] qN va_S.rf (State.WarmedH.refl U)⟩
  have hpre : ∀ U : State, U.heap = H → s.WarmedH U.vm → va_Pc (.ref b :: As) (fun U => va_P D cl (w st) U.heap ∧ va_K D cl tys U ∧ sf U) (.ref b :: As).toArray U := fun U hU hW => ⟨rfl, by rw [hU]; exact hP, va_K.moved hW.alike hK, hN U locs (by rw [hU]; exact hS) hW⟩
  have hrv := va_recv hK hP hcl he
  refine zz_back (v := inj2 r) (P := fun H => va_P D cl (w st') H) (va_runV (b := b) (As := As) (rest := rest) ⟨hx, hb, hml, hown, hts⟩ hM (cwV n hts (zz_gV hkv hlk0) rfl hrc hrs hkv.2.2.2.2.2 ⟨Nat.le_trans hR.1 hF, Nat.le_trans hR.2 hKl⟩) ⟨hFB, hrv, hpre⟩ rfl hn (hl.1) hstk hroom d hcs) hS (fun q hq => hA q hq) (fun H1 locs1 hP1 hS1 => ?_)
  exact z r st' o e2 H1 locs1 ls hP1 hS1 hl
/-- the contract of a method that may throw, where it returns -/
theorem zx_met {l : Launch} {D : va_G} {cl : List vw_C} {tys : List (ClassId × FieldType)} {sf : State → Prop} {as : Nat → Prop} {w : σ → va_W} {y : MethodName} {ws : List Cond} {rm : Room} {mc ms : Nat} {inj2 : β → Option Value} {xc : Nat → String} {av : List Value} {kf : Option ((β ⊕ Nat) × σ)} (hM : zz_CT (l, D, cl, tys, sf, as, w) y ws rm mc ms inj2 xc av st kf) (sz : Nat) {r : β} {st' : σ} (e : kf = some (.inl r, st')) :
    Met l y ws rm (va_Pc av (fun U => U.heap.size = sz ∧ va_P D cl (w st) U.heap ∧ va_K D cl tys U ∧ sf U)) (fun _ s0 oc t => (oc = .returned (inj2 r) ∧ va_P D cl (w st') t.heap) ∧ va_F (fun q => as q ∨ sz ≤ q) s0 t) mc ms (fun q => as q ∨ sz ≤ q) := by
  refine MetFree.mono (hM sz (.inl r, st') e) (fun _ _ h => h) (fun _ _ _ _ _ h => h) ?_
  rintro a s0 oc t - ⟨⟨h1, h2, h3⟩, h4, Lc, h5, h6⟩
  have h1 : oc = .returned (inj2 r) := h1
  exact ⟨⟨⟨h1, h2⟩, h3⟩, Lc, ⟨⟨_, h1⟩, h4, h5⟩, h6⟩
/-- the handlers of the method that is walked -/
def zz_hd (E : zz_E) (hh : List (Nat × Nat × Nat × Nat)) : Prop := match E with
  | (_, _, _, _, _, _, _, _, c, _, _, _) => c.exceptionTable.toList.map (fun h => (h.startPc, h.endPc, h.handlerPc, h.catchType)) = hh
/-- where the throw of the kind n is caught -/
def zz_ct (V : zz_V σ) (E : zz_E) (own : String) (pc : Nat) (xc : Nat → String) (n hp : Nat) : Prop := match V, E with
  | (l, _, _, _, sf, _, _), (_, e, _, s, m, args, below, _, c, _, _, _) => l.admits e → ∀ (U : State) (f : JFrame) (a : Nat) (cell : Cell), s.WarmedH U.vm → sf U → f.method = m → f.pc = pc → s.vm.findClass own = some m.cls → U.heap[a]? = some cell → cell.vm.isStatics = false → s.vm.findClass (xc n) = some cell.cls → ∃ vm', s.WarmedH vm' ∧ zx_F e U f a c.exceptionTable.toList hp vm'
theorem zg_callT (h : zz_X V E own cc nL Ts F K ret) {y : MethodName} {rm : Room} {bytes : ByteArray} {maxL index n mc ms : Nat} (hcs : zz_cs E (cn + mc) (sn + ms)) {ret2 : Option FieldType} {inj2 : β → Option Value} {xc : Nat → String} {kf : Option ((β ⊕ Nat) × σ)} {g : β → σ → Option (α × σ)} {gt : Nat → σ → Option (α × σ)} {rest : List Value} {As : List Value} {C : String} {b q0 ci : Nat} {T : u_T} {N : Nat} {fs : List Value} (he : (zz_w V st)[q0]? = some (b, .inr (ci, fs))) (hcl : (zz_cl V)[ci]? = some (C, T, N)) (hM : zz_CT V y (Cond.code y bytes maxL ret2 :: Ts) rm mc ms inj2 xc (.ref b :: As) st kf) (hkv : zz_kV Ts y bytes maxL ret2 C n) (hlk0 : Cond.methodLink own index y ∈ Ts) (hrc : rm.cells = mc) (hrs : rm.slots = ms) (hR : rm.frames + 1 ≤ F ∧ 8 + (maxL + 11) + rm.locals ≤ K) (hn : As.length = n) (hstk : stk = As.reverse ++ .ref b :: rest) (hcat : (rest.map fun v => v.category).sum ≤ 8) (d : decode cc pc = .ok (.invokevirtual index, 3))
    (hnew : ∀ q, E.2.2.2.1.heap.size ≤ q → E.2.2.2.2.2.2.2.2.2.1 q) (hp : Nat → Nat) (hct : ∀ (i : Nat) (s1 : σ) (o : α × σ), gt i s1 = some o → zz_ct V E own pc xc i (hp i))
    (z : ∀ (r : β) (st1 : σ), zz_Z V E nL (cn + mc) (sn + ms) inj (g r st1) (pc + 3) L ((inj2 r).toList ++ rest) st1) (zt : ∀ (i : Nat) (st1 : σ) (x : Nat), zz_Z V E nL (cn + mc) (sn + ms) inj (gt i st1) (hp i) L [.ref x] st1) : zz_Z V E nL cn sn inj (zz_bt kf g gt) pc L stk st := by
  obtain ⟨l, D, cl, tys, sf, as, w⟩ := V
  obtain ⟨p, e, R, s, m, args, below, meth, c, A, mc0, ms0⟩ := E
  obtain ⟨⟨hx, hb, hml, hown, hts⟩, hK, hN, ⟨hD, hsf⟩, hA, hlk, hret, hF, hKl⟩ := h
  intro o hk H locs ls hP hS hl
  have hroom : 2 * (F0 m pc ls stk).monitorRoom + (rest.map fun v => v.category).sum ≤ 8 := lv_room hcat
  have hFB : FrameBlind (va_Pc (.ref b :: As) (fun U => U.heap.size = H.size ∧ va_P D cl (w st) U.heap ∧ va_K D cl tys U ∧ sf U)) := fun a U g mk q => by
    obtain ⟨q0, qz, qP, qK, qN⟩ := q
    exact ⟨q0, qz, qP, va_K.moved (u := U) (U := U.calling g mk a) (Vm.Alike.refl U.vm) qK, hsf U (U.calling g mk a) [] qN va_S.rf (State.WarmedH.refl U)⟩
  have hpre : ∀ U : State, U.heap = H → s.WarmedH U.vm → va_Pc (.ref b :: As) (fun U => U.heap.size = H.size ∧ va_P D cl (w st) U.heap ∧ va_K D cl tys U ∧ sf U) (.ref b :: As).toArray U := fun U hU hW => ⟨rfl, by rw [hU], by rw [hU]; exact hP, va_K.moved hW.alike hK, hN U locs (by rw [hU]; exact hS) hW⟩
  have hrv := va_recv hK hP hcl he
  have hA1 : ∀ q, (as q ∨ H.size ≤ q) → A q := fun q hq => hq.elim (fun h => hA q h) (fun h => hnew q (Nat.le_trans hS.1 h))
  have hcw := cwV (R := R) (mc := mc) (ms := ms) n hts (zz_gV hkv hlk0) rfl hrc hrs hkv.2.2.2.2.2 ⟨Nat.le_trans hR.1 hF, Nat.le_trans hR.2 hKl⟩
  cases hkf : kf with
  | none => rw [hkf] at hk; cases hk
  | some q =>
    obtain ⟨res, st'⟩ := q
    cases res with
    | inl r =>
      rw [hkf] at hk
      have hM1 := zx_met hM H.size hkf
      refine zz_back (v := inj2 r) (P := fun H => va_P D cl (w st') H) (va_runV (b := b) (As := As) (rest := rest) ⟨hx, hb, hml, hown, hts⟩ hM1 hcw ⟨hFB, hrv, hpre⟩ rfl hn (hl.1) hstk hroom d hcs) hS hA1 (fun H1 locs1 hP1 hS1 => ?_)
      exact z r st' o hk H1 locs1 ls hP1 hS1 hl
    | inr i =>
      rw [hkf] at hk
      have hM1 := hM H.size (.inr i, st') hkf
      intro T hT X
      obtain ⟨x, st₀, t, T', Lc, t1, t2, X2, t3, t4, ⟨⟨⟨x2, ce, ex, e1, e2, e3, e4⟩, hP1, hF1⟩, -⟩, hgo⟩ := zx_throwV (free := fun q => as q ∨ H.size ≤ q) ⟨hx, hb, hml, hown, hts⟩ hM1 hcw ⟨hFB, hrv, hpre⟩ hn hl.1 hstk hcat d hcs
        (fun a s0 oc t hq => by
          obtain ⟨⟨⟨x2, ce, ex, -⟩, -⟩, hw, Lc, h5, h6⟩ := hq
          exact ⟨x2, Lc, ex, hw, h5, h6⟩) T hT X
      cases ex
      have hS1 : va_S A s.heap T'.heap (locs ++ Lc) := by
        refine ⟨?_, fun q h1 h2 => ?_, fun q hq => ?_⟩
        · have := hF1.1
          rw [t1] at this
          rw [t4]
          exact Nat.le_trans hS.1 this
        · have h3 := hF1.2 q (by rw [t1]; exact Nat.lt_of_lt_of_le h1 hS.1) (fun z => h2 (hA1 q z))
          rw [t4, h3, t1]
          exact hS.2.1 q h1 h2
        · rcases List.mem_append.mp hq with h | h
          · exact hS.2.2 q h
          · exact hA1 _ (t3 q h)
      have hWT : s.WarmedH T'.vm := X2.warmed
      have hsfT : sf T' := hN T' (locs ++ Lc) hS1 hWT
      obtain ⟨vm', hW', hFi⟩ := hct i st' o hk X2.admits ((T'.setTop (F0 m pc ls rest)).pushFrame (.throwing x)) (F0 m pc ls rest) x ce (by rw [Stand.throwing_vm]; exact hWT)
        (hN _ (locs ++ Lc) (by rw [Stand.throwing_heap]; exact hS1) (by rw [Stand.throwing_vm]; exact hWT)) rfl rfl hown (by rw [Stand.throwing_heap, t4]; exact e1) e3 (by rw [← t2.alike.findClass]; exact e2)
      have X3 := X2.noted hW'
      have hP1' : va_P D cl (w st') T'.heap := by rw [t4]; exact hP1
      obtain ⟨tt, s1, s2⟩ := zt i st' x o hk T'.heap (locs ++ Lc) ls hP1' hS1 hl (T'.setVm vm') rfl X3
      refine ⟨tt, hgo tt ?_, s2⟩
      refine zx_caught (g := F0 m pc ls rest) X2.here (vm' := vm') (pc := hp i) (fun Q E d acts => ?_) s1
      rw [W.findHandler_eq (meth := meth) (code := c) (by rw [Stand.throwing_vm]; exact X2.method') X2.code]
      exact hFi Q E d acts
end ZL
