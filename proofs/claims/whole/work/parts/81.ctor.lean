/-! walks whose world is a list that grows: constructors -/
def zk_V (l : Launch) (D : va_G) (tys : List (ClassId × FieldType)) (A : Nat → Prop) (ws : va_W) : zz_V Unit := (l, D, zt_cl, tys, fun U => va_AO "FrameProcessor$Task" U, A, fun _ => ws)
def zk_E (E : zz_E) (A : Nat → Prop) : Prop := match E with
  | (_, _, _, s, _, _, _, _, _, A', _, _) => A' = A ∧ ∀ q, s.heap.size ≤ q → A q
def zk_I (E : zz_E) : Prop := match E with
  | (_, _, _, _, _, _, _, meth, _, _, _, _) => meth.name = "<init>"
section ZK
variable {α : Type} {l : Launch} {D : va_G} {tys : List (ClassId × FieldType)} {A : Nat → Prop} {ws : va_W} {E : zz_E} {own : String} {cc : ByteArray} {nL F K cn sn : Nat} {Ts : List Cond} {ret : Option FieldType} {inj : α × Unit → State → Prop} {k : Option (α × Unit)} {pc : Nat} {L : List (Nat × Value)} {stk : List Value}
theorem zk_X {ws' : va_W} (h : zz_X (zk_V l D tys A ws) E own cc nL Ts F K ret) (hD' : va_D A ws') : zz_X (zk_V l D tys A ws') E own cc nL Ts F K ret := by
  obtain ⟨p, e, R, s, m, args, below, meth, c, A', mc, ms⟩ := E
  obtain ⟨h1, hK, hN, ⟨hD, hsf⟩, hA, hlk, hret, hF, hKl⟩ := h
  exact ⟨h1, hK, hN, ⟨fun _ => hD', hsf⟩, hA, hlk, hret, hF, hKl⟩
theorem zk_new (h : zz_X (zk_V l D tys A ws) E own cc nL Ts F K ret) (hE : zk_E E A) {C : String} {T : u_T} {N ci index : Nat} (hin : ∀ q ∈ u_ws C T N, q ∈ Ts) (ty : Nat → FieldType) (hty : ∀ k, k < N → parseFieldDescriptor (T k).2.2.1 = some (ty k)) (hcl : Cond.classLink own index C ∈ Ts) (hins : Cond.instantiable C N ∈ Ts) (hini : Cond.initialized C ∈ Ts) (hc : zt_cl[ci]? = some (C, T, N)) {fs : List Value} (hfs : ∀ j, j < N → defaultValue (ty j) = vp_V fs j) (hcs : zz_cs E (cn + 1) (sn + N)) (d : decode cc pc = .ok (.new index, 3))
    {ws' : Nat → va_W} (hw : ∀ q : Nat, ws ++ [(q, .inr (ci, fs))] = ws' q)
    (z : ∀ q : Nat, zz_X (zk_V l D tys A (ws' q)) E own cc nL Ts F K ret → zz_Z (zk_V l D tys A (ws' q)) E nL (cn + 1) (sn + N) inj k (pc + 3) L (.ref q :: stk) ()) : zz_Z (zk_V l D tys A ws) E nL cn sn inj k pc L stk () := by
  obtain rfl : (fun q => ws ++ [(q, .inr (ci, fs))]) = ws' := funext hw
  obtain ⟨p, e, R, s, m, args, below, meth, c, A', mc, ms⟩ := E
  have h0 := h
  obtain ⟨⟨hx, hb, hml, hown, hts⟩, hK, hN, ⟨hD, hsf⟩, hA, hlk, hret, hF, hKl⟩ := h
  obtain ⟨rfl, hnew⟩ := hE
  intro o hk H locs ls hP hS hl
  exact va_new hx hb hts hin ty hty hown (hts _ hcl) (hts _ hins) (hts _ hini) hK hP (hD ()) hS hnew hc hfs hcs.1 hcs.2 d (fun q H1 hP1 hD1 hS1 => z q (zk_X h0 hD1) o hk H1 locs ls hP1 hS1 hl)
theorem zk_newa (h : zz_X (zk_V l D tys A ws) E own cc nL Ts F K ret) (hE : zk_E E A) {atype : ArrayType} {ty : FieldType} (hty : newarray.typeOf atype = ty) (harr : Cond.arrayClass (newarray.typeOf atype) ∈ Ts) (t0 : Nat) {cA : ClassId} (ht : tys[t0]? = some (cA, ty)) (hra : ∀ U : State, va_RA U cA ty → U.vm.findClass ("[" ++ ty.toString) = some cA) (hra2 : ∀ (U : State) (cB : ClassId), va_RA U cB ty → U.vm.findClass ("[" ++ ty.toString) = some cB)
    {n : Int32} {N' : Nat} {a0 : vp_A} (ha : ∀ cA : ClassId, vp_cell cA a0 = arrV cA N' (fun _ => defaultValue ty)) (hn : ¬ n < 0) (hN' : n.toNatClampNeg = N') (hbytes : N' * componentBytes ty ≤ 536870912) (hcs : zz_cs E (cn + 1) (sn + N')) (d : decode cc pc = .ok (.newarray atype, 2))
    {ws' : Nat → va_W} (hw : ∀ q : Nat, ws ++ [(q, .inl (cA, a0))] = ws' q)
    (z : ∀ q : Nat, zz_X (zk_V l D tys A (ws' q)) E own cc nL Ts F K ret → zz_Z (zk_V l D tys A (ws' q)) E nL (cn + 1) (sn + N') inj k (pc + 2) L (.ref q :: stk) ()) : zz_Z (zk_V l D tys A ws) E nL cn sn inj k pc L (.int n :: stk) () := by
  obtain rfl : (fun q => ws ++ [(q, .inl (cA, a0))]) = ws' := funext hw
  obtain ⟨p, e, R, s, m, args, below, meth, c, A', mc, ms⟩ := E
  have h0 := h
  obtain ⟨⟨hx, hb, hml, hown, hts⟩, hK, hN, ⟨hD, hsf⟩, hA, hlk, hret, hF, hKl⟩ := h
  obtain ⟨rfl, hnew⟩ := hE
  intro o hk H locs ls hP hS hl
  refine va_newa hx hb (hts _ harr) hty hK hP (hD ()) hS hnew ha hn hN' hbytes hcs.1 hcs.2 d (fun q cB H1 hK1 hP1 hD1 hS1 => ?_)
  have e1 := hra s (hK.2 t0 _ ht).2
  have e2 := hra2 s cB (hK1.2 tys.length (cB, ty) (by simp)).2
  have e3 : cB = cA := Option.some.inj (e2.symm.trans e1)
  subst e3
  exact z q (zk_X h0 hD1) o hk H1 locs ls hP1 hS1 hl
theorem zk_newq (h : zz_X (zk_V l D tys A ws) E own cc nL Ts F K ret) (hE : zk_E E A) {index : Nat} (hcl : Cond.classLink own index "FrameProcessor$Task" ∈ Ts) (t0 : Nat) {cA : ClassId} (ht : tys[t0]? = some (cA, .object "FrameProcessor$Task"))
    {n : Int32} {N' : Nat} (hn : ¬ n < 0) (hN' : n.toNatClampNeg = N') (hbytes : N' * 4 ≤ 536870912) (hcs : zz_cs E (cn + 1) (sn + N')) (d : decode cc pc = .ok (.anewarray index, 3))
    {ws' : Nat → va_W} (hw : ∀ q : Nat, ws ++ [(q, .inl (cA, N', .inr (.inr (.inr (.inr (fun _ => none))))))] = ws' q)
    (z : ∀ q : Nat, zz_X (zk_V l D tys A (ws' q)) E own cc nL Ts F K ret → zz_Z (zk_V l D tys A (ws' q)) E nL (cn + 1) (sn + N') inj k (pc + 3) L (.ref q :: stk) ()) : zz_Z (zk_V l D tys A ws) E nL cn sn inj k pc L (.int n :: stk) () := by
  obtain rfl : (fun q => ws ++ [(q, .inl (cA, N', .inr (.inr (.inr (.inr (fun _ => none))))))]) = ws' := funext hw
  obtain ⟨p, e, R, s, m, args, below, meth, c, A', mc, ms⟩ := E
  have h0 := h
  obtain ⟨⟨hx, hb, hml, hown, hts⟩, hK, hN, ⟨hD, hsf⟩, hA, hlk, hret, hF, hKl⟩ := h
  obtain ⟨rfl, hnew⟩ := hE
  intro o hk H locs ls hP hS hl
  refine va_newq hx hb hown (hts _ hcl) (hN s [] va_S.rf (State.WarmedH.refl s)) hK hP (hD ()) hS hnew hn hN' hbytes hcs.1 hcs.2 d (fun q cB H1 hK1 hP1 hD1 hS1 => ?_)
  obtain ⟨_, _, -, -, -, e1⟩ := (hK.2 t0 _ ht).2
  obtain ⟨_, _, -, -, -, e2⟩ := (hK1.2 tys.length (cB, .object "FrameProcessor$Task") (by simp)).2
  have e3 : cB = cA := Option.some.inj (e2.symm.trans e1)
  subst e3
  exact z q (zk_X h0 hD1) o hk H1 locs ls hP1 hS1 hl
theorem zk_put (h : zz_X (zk_V l D tys A ws) E own cc nL Ts F K ret) (hE : zk_E E A) {C ref : String} {T : u_T} {N ci index : Nat} (hin : ∀ q ∈ u_ws C T N, q ∈ Ts) (ty0 : Nat → FieldType) (hty : ∀ k, k < N → parseFieldDescriptor (T k).2.2.1 = some (ty0 k)) (hnm : ∀ a, a < N → ∀ b, b < N → a ≠ b → (T a).2.1 ≠ (T b).2.1) (q0 : Nat) {a : Nat} {fs : List Value} (he : ws[q0]? = some (a, .inr (ci, fs))) (hc : zt_cl[ci]? = some (C, T, N)) (kf : Nat) (hk : kf < N) (hlink : Cond.fieldLink own index ref (T kf).2.1 (T kf).2.2.1 ∈ Ts) (hsame : (T kf).1 = ref) (hfin : (T kf).2.2.2 = false) {ty : FieldType} {v : Value} (hd : parseFieldDescriptor (T kf).2.2.1 = some ty) (hn : narrow ty v = v) (hfit : fits ty v = true) (hlen : kf < fs.length) (d : decode cc pc = .ok (.putfield index, 3))
    {ws' : va_W} (hw : ws.set q0 (a, .inr (ci, fs.set kf v)) = ws')
    (z : zz_X (zk_V l D tys A ws') E own cc nL Ts F K ret → zz_Z (zk_V l D tys A ws') E nL cn sn inj k (pc + 3) L stk ()) : zz_Z (zk_V l D tys A ws) E nL cn sn inj k pc L (v :: .ref a :: stk) () := by
  subst hw
  obtain ⟨p, e, R, s, m, args, below, meth, c, A', mc, ms⟩ := E
  have h0 := h
  obtain ⟨⟨hx, hb, hml, hown, hts⟩, hK, hN, ⟨hD, hsf⟩, hA, hlk, hret, hF, hKl⟩ := h
  obtain ⟨rfl, hnew⟩ := hE
  intro o hk0 H locs ls hP hS hl
  exact va_put hx hb hts hin ty0 hty hnm hown hK hP (hD ()) hS q0 he hc kf hk (hts _ hlink) (fun _ q => by rw [← hsame]; exact q) hfin hd hn hfit hlen d (fun H1 locs1 hP1 hD1 hS1 => z (zk_X h0 hD1) o hk0 H1 locs1 ls hP1 hS1 hl)
theorem zk_putF (h : zz_X (zk_V l D tys A ws) E own cc nL Ts F K ret) (hE : zk_E E A) (hI : zk_I E) {C ref : String} {T : u_T} {N ci index : Nat} (hin : ∀ q ∈ u_ws C T N, q ∈ Ts) (ty0 : Nat → FieldType) (hty : ∀ k, k < N → parseFieldDescriptor (T k).2.2.1 = some (ty0 k)) (hnm : ∀ a, a < N → ∀ b, b < N → a ≠ b → (T a).2.1 ≠ (T b).2.1) (q0 : Nat) {a : Nat} {fs : List Value} (he : ws[q0]? = some (a, .inr (ci, fs))) (hc : zt_cl[ci]? = some (C, T, N)) (kf : Nat) (hk : kf < N) (hlink : Cond.fieldLink own index ref (T kf).2.1 (T kf).2.2.1 ∈ Ts) (hsame : (T kf).1 = ref) (hfin : (T kf).2.2.2 = true) (hdecl : (T kf).1 = own) {ty : FieldType} {v : Value} (hd : parseFieldDescriptor (T kf).2.2.1 = some ty) (hn : narrow ty v = v) (hfit : fits ty v = true) (hlen : kf < fs.length) (d : decode cc pc = .ok (.putfield index, 3))
    {ws' : va_W} (hw : ws.set q0 (a, .inr (ci, fs.set kf v)) = ws')
    (z : zz_X (zk_V l D tys A ws') E own cc nL Ts F K ret → zz_Z (zk_V l D tys A ws') E nL cn sn inj k (pc + 3) L stk ()) : zz_Z (zk_V l D tys A ws) E nL cn sn inj k pc L (v :: .ref a :: stk) () := by
  subst hw
  obtain ⟨p, e, R, s, m, args, below, meth, c, A', mc, ms⟩ := E
  have h0 := h
  obtain ⟨⟨hx, hb, hml, hown, hts⟩, hK, hN, ⟨hD, hsf⟩, hA, hlk, hret, hF, hKl⟩ := h
  obtain ⟨rfl, hnew⟩ := hE
  intro o hk0 H locs ls hP hS hl
  exact va_putF hx hb hts hin ty0 hty hnm hown hK hP (hD ()) hS q0 he hc kf hk (hts _ hlink) (fun _ q => by rw [← hsame]; exact q) hfin hI hdecl hd hn hfit hlen d (fun H1 locs1 hP1 hD1 hS1 => z (zk_X h0 hD1) o hk0 H1 locs1 ls hP1 hS1 hl)
theorem zk_iast (h : zz_X (zk_V l D tys A ws) E own cc nL Ts F K ret) (hE : zk_E E A) (q0 t0 : Nat) {cA : ClassId} {n a : Nat} {f : Nat → Int32} {x : Int32} {i : Int32} (ha : ws[q0]? = some (a, .inl (cA, n, .inl f))) (ht : tys[t0]? = some (cA, .int)) (hi : zz_in i n = true) (d : decode cc pc = .ok (.iastore, 1))
    {ws' : va_W} (hw : ws.set q0 (a, .inl (cA, n, .inl (upd f i.toNatClampNeg x))) = ws')
    (z : zz_X (zk_V l D tys A ws') E own cc nL Ts F K ret → zz_Z (zk_V l D tys A ws') E nL cn sn inj k (pc + 1) L stk ()) : zz_Z (zk_V l D tys A ws) E nL cn sn inj k pc L (.int x :: .int i :: .ref a :: stk) () := by
  subst hw
  obtain ⟨p, e, R, s, m, args, below, meth, c, A', mc, ms⟩ := E
  have h0 := h
  obtain ⟨⟨hx, hb, hml, hown, hts⟩, hK, hN, ⟨hD, hsf⟩, hA, hlk, hret, hF, hKl⟩ := h
  obtain ⟨rfl, hnew⟩ := hE
  intro o hk0 H locs ls hP hS hl
  exact va_iast hx hb hK hP (hD ()) hS q0 t0 ha ht (zz_in_vp hi) d (fun H1 locs1 hP1 hD1 hS1 => z (zk_X h0 hD1) o hk0 H1 locs1 ls hP1 hS1 hl)
theorem zk_astq (h : zz_X (zk_V l D tys A ws) E own cc nL Ts F K ret) (hE : zk_E E A) (q0 t0 qk : Nat) {cA : ClassId} {n v a : Nat} {vs : List Value} {f : Nat → Option Nat} {i : Int32} (ha : ws[q0]? = some (a, .inl (cA, n, .inr (.inr (.inr (.inr f)))))) (ht : tys[t0]? = some (cA, .object "FrameProcessor$Task")) (hv : ws[qk]? = some (v, .inr (7, vs))) (hi : zz_in i n = true) (d : decode cc pc = .ok (.aastore, 1))
    {ws' : va_W} (hw : ws.set q0 (a, .inl (cA, n, .inr (.inr (.inr (.inr (va_up f i.toNatClampNeg (some v))))))) = ws')
    (z : zz_X (zk_V l D tys A ws') E own cc nL Ts F K ret → zz_Z (zk_V l D tys A ws') E nL cn sn inj k (pc + 1) L stk ()) : zz_Z (zk_V l D tys A ws) E nL cn sn inj k pc L (.ref v :: .int i :: .ref a :: stk) () := by
  subst hw
  obtain ⟨p, e, R, s, m, args, below, meth, c, A', mc, ms⟩ := E
  have h0 := h
  obtain ⟨⟨hx, hb, hml, hown, hts⟩, hK, hN, ⟨hD, hsf⟩, hA, hlk, hret, hF, hKl⟩ := h
  obtain ⟨rfl, hnew⟩ := hE
  intro o hk0 H locs ls hP hS hl
  exact va_astq (r := ("FrameProcessor$Task", zT_TA, 10)) hx hb hK hP (hD ()) hS q0 t0 qk 7 ha ht hv rfl (zz_in_vp hi) d (fun H1 locs1 hP1 hD1 hS1 => z (zk_X h0 hD1) o hk0 H1 locs1 ls hP1 hS1 hl)
theorem zk_obj (h : zz_X (zk_V l D tys A ws) E own cc nL Ts F K ret) {idx a : Nat} (hlink : Cond.methodLink own idx Lib.objectInit ∈ Ts) (hinst : Cond.instanceMethod Lib.objectInit ∈ Ts) (hcode : Cond.code Lib.objectInit ⟨#[0xb1]⟩ 1 none ∈ Ts) (hf : 1 ≤ F) (hk2 : (stk.map fun v => v.category).sum + 12 ≤ K) (d : decode cc pc = .ok (.invokespecial idx, 3))
    (z : zz_Z (zk_V l D tys A ws) E nL cn sn inj k (pc + 3) L stk ()) : zz_Z (zk_V l D tys A ws) E nL cn sn inj k pc L (.ref a :: stk) () := by
  obtain ⟨p, e, R, s, m, args, below, meth, c, A', mc, ms⟩ := E
  obtain ⟨⟨hx, hb, hml, hown, hts⟩, hK, hN, ⟨hD, hsf⟩, hA, hlk, hret, hF, hKl⟩ := h
  intro o hk0 H locs ls hP hS hl
  refine W.objInit hx hb hown (hts _ hlink) (hts _ hinst) (hts _ hcode) rfl (by rw [hml]; exact hl.1) rfl d (Nat.le_trans hf hF) ?_ (z o hk0 H locs ls hP hS hl)
  have := Nat.le_trans hk2 hKl
  show 2 * (F0 m pc ls (.ref a :: stk)).monitorRoom + _ + 12 ≤ R.locals
  rw [show (F0 m pc ls (.ref a :: stk)).monitorRoom = 0 from rfl]
  omega
def zk_C (l : Launch) (D : va_G) (tys : List (ClassId × FieldType)) (y : MethodName) (wd : List Cond) (rm : Room) (mc ms : Nat) (av : List Value) (wp : va_W) (post : (Nat → Nat) → va_W) : Prop :=
  ∀ sz : Nat, va_D (fun _ => True) wp → Met l y wd rm (va_Pc av (fun U => U.heap.size = sz ∧ va_P D zt_cl wp U.heap ∧ va_K D zt_cl tys U ∧ va_AO "FrameProcessor$Task" U)) (va_Qv (S := Nat → Nat) (fun _ => True) (fun f t => va_P D zt_cl (post f) t.heap ∧ va_D (va_A wp sz) (post f)) (va_A wp sz)) mc ms (va_A wp sz)
def zk_q (l : Launch) (D : va_G) (E : zz_E) (post : (Nat → Nat) → va_W) (_ : Unit × Unit) : State → Prop := match E with
  | (_, _, _, s, _, args, below, _, _, A, mc, ms) => MQ below (va_Qv (S := Nat → Nat) (fun _ => True) (fun f t => va_P D zt_cl (post f) t.heap ∧ va_D A (post f)) A) args s mc ms A
theorem zk_met {y : MethodName} {fr lo mc ms maxL : Nat} {av : List Value} {wp : va_W} {post : (Nat → Nat) → va_W} (hy : plainName y.cls = true) (hown : y.cls = own) (hi : y.name = "<init>") (hlen : (lg_sl av).length ≤ maxL) (hcat : (lv_args 0 av).all (fun q => q.2.category == 1) = true)
    (body : ∀ (E : zz_E) (A : Nat → Prop), zz_X (zk_V l D tys A wp) E own cc maxL Ts fr lo none → zk_E E A → zk_I E → zz_cs E mc ms → E.2.2.2.2.2.2.2.2.2.2 = (mc, ms) → zz_Z (zk_V l D tys A wp) E maxL 0 0 (zk_q l D E post) (some ((), ())) 0 (lv_args 0 av) [] ()) : zk_C l D tys y (Cond.code y cc maxL none :: Ts) { frames := fr, cells := mc, slots := ms, locals := lo } mc ms av wp post := by
  intro sz hD0
  refine Met.ofW (cc := cc) (maxL := maxL) (ret := none) hy rfl ?_
  intro p e s m args below meth c s₁ B hml hv
  obtain ⟨rfl, rfl, hP, hK, hN⟩ := hv
  have hl := lv_entry av (n := maxL) hlen
  rw [lg_entry_eq]
  have hX : zz_X (zk_V l D tys (va_A wp s.heap.size) wp) (p, e, ({ frames := fr, cells := mc, slots := ms, locals := lo } : Room), s, m, av.toArray, below, meth, c, va_A wp s.heap.size, mc, ms) own cc maxL Ts fr lo none :=
    ⟨⟨B.exec, B.bytes, hml, by rw [← hown]; exact findClass_of_methodNamed B.named, fun q hq => atoms_spec (ws := Cond.code y cc maxL none :: Ts) B.pre q (List.mem_cons_of_mem _ hq)⟩, hK, fun U lc hS hW => va_AO.moved hW.alike hN, ⟨fun _ => hD0.self, fun u U lc h1 _ hW => va_AO.moved hW.alike h1⟩, fun _ h => h, B.notSynchronized, B.returns, Nat.le_refl _, Nat.le_refl _⟩
  exact body _ _ hX ⟨rfl, fun q h => Or.inr h⟩ ((name_of_methodNamed B.named B.method).1.trans hi) ⟨Nat.le_refl _, Nat.le_refl _⟩ rfl ((), ()) rfl s.heap [] _ hP va_S.rf (zz_has_of hl hcat)
theorem zk_ret {E : zz_E} {mc ms : Nat} {post : (Nat → Nat) → va_W} (h : zz_X (zk_V l D tys A ws) E own cc nL Ts F K none) (hE : zk_E E A) (f : Nat → Nat) (hp : post f = ws) (hmc : E.2.2.2.2.2.2.2.2.2.2 = (mc, ms)) (hc : cn ≤ mc) (hs : sn ≤ ms) (d : decode cc pc = .ok (.return_, 1)) : zz_Z (zk_V l D tys A ws) E nL cn sn (zk_q l D E post) (some ((), ())) pc L [] () := by
  obtain ⟨p, e, R, s, m, args, below, meth, c, A', mc0, ms0⟩ := E
  obtain ⟨⟨hx, hb, hml, hown, hts⟩, hK, hN, ⟨hD, hsf⟩, hA, hlk, hret, hF, hKl⟩ := h
  obtain ⟨rfl, hnew⟩ := hE
  cases hmc
  intro o hk0 H locs ls hP hS hl
  refine W.widen (k := mc) (n := ms) hc hs ?_
  show W p l e R s m args below meth c H locs mc ms (MQ below (va_Qv (S := Nat → Nat) (fun _ => True) (fun f t => va_P D zt_cl (post f) t.heap ∧ va_D A' (post f)) A') args s mc ms A') _
  exact W.vret hx hb hret (fun t ht hW => ⟨⟨f, rfl, trivial, by rw [ht, hp]; exact hP, by rw [hp]; exact hD ()⟩, hS.F ht⟩) hS.2.2 d (hlocks := hlk)
theorem zk_callI (h : zz_X (zk_V l D tys A ws) E own cc nL Ts F K ret) (hE : zk_E E A) {y : MethodName} {rm : Room} {bytes : ByteArray} {maxL index n mc ms : Nat} (hcs : zz_cs E (cn + mc) (sn + ms)) {As rest : List Value} {b : Nat} {wp wr : va_W} {post : (Nat → Nat) → va_W} (hM : zk_C l D tys y (Cond.code y bytes maxL none :: Ts) rm mc ms (.ref b :: As) wp post) (hgood : ∀ w ∈ Ts, goodWord w = true) (hcd : Cond.code y bytes maxL none ∈ Ts) (hins : Cond.instanceMethod y ∈ Ts) (hini : Cond.initialized y.cls ∈ Ts) (hlk0 : Cond.methodLink own index y ∈ Ts) (hy1 : y.name = "<init>") (hd : y.cls ≠ "java/lang/invoke/MethodHandle" ∧ y.cls ≠ "java/lang/invoke/VarHandle" ∧ (parseMethodDescriptor y.desc).map (fun d => d.parameters.length) = some n) (hrc : rm.cells = mc) (hrs : rm.slots = ms) (hR : rm.frames + 1 ≤ F ∧ 8 + (maxL + 11) + rm.locals ≤ K) (hn : As.length = n) (hstk : stk = As.reverse ++ .ref b :: rest) (hcat : (rest.map fun v => v.category).sum ≤ 8)
    (isC isR : List Nat) (hC : isC.map (fun i => ws[i]?) = wp.map some) (hRr : isR.map (fun i => ws[i]?) = wr.map some) (hnC : va_nd isC = true) (hnR : va_nd isR = true) (hdis : ∀ i ∈ isR, i ∉ isC) (d : decode cc pc = .ok (.invokespecial index, 3))
    {ws' : (Nat → Nat) → va_W} (hw : ∀ f : Nat → Nat, wr ++ post f = ws' f)
    (z : ∀ f : Nat → Nat, zz_X (zk_V l D tys A (ws' f)) E own cc nL Ts F K ret → zz_Z (zk_V l D tys A (ws' f)) E nL (cn + mc) (sn + ms) inj k (pc + 3) L rest ()) : zz_Z (zk_V l D tys A ws) E nL cn sn inj k pc L stk () := by
  obtain rfl : (fun f => wr ++ post f) = ws' := funext hw
  obtain ⟨p, e, R, s, m, args, below, meth, c, A', mc0, ms0⟩ := E
  have h0 := h
  obtain ⟨⟨hx, hb, hml, hown, hts⟩, hK, hN, ⟨hD, hsf⟩, hA, hlk, hret, hF, hKl⟩ := h
  obtain ⟨rfl, hnew⟩ := hE
  intro o hk0 H locs ls hP hS hl
  have hroom : 2 * (F0 m pc ls stk).monitorRoom + (rest.map fun v => v.category).sum ≤ 8 := lv_room hcat
  have hDc : va_D A' wp := (hD ()).sub isC hnC hC
  have hPc : va_P D zt_cl wp H := by
    intro k q hq
    have h1 : (isC.map (fun i => ws[i]?))[k]? = some (some q) := by rw [hC, List.getElem?_map, hq]; rfl
    rw [List.getElem?_map] at h1
    cases hi : isC[k]? with
    | none => rw [hi] at h1; cases h1
    | some i => rw [hi] at h1; exact hP i q (Option.some.inj h1)
  have hFc := va_free (wc := wp) (hD ()) hS hnew isC hC
  have hM1 := hM H.size (hDc.weaken (fun _ _ _ _ => trivial))
  have hFB : FrameBlind (va_Pc (.ref b :: As) (fun U => U.heap.size = H.size ∧ va_P D zt_cl wp U.heap ∧ va_K D zt_cl tys U ∧ va_AO "FrameProcessor$Task" U)) := fun a U g mk q => by
    obtain ⟨q0, qz, qP, qK, qN⟩ := q
    exact ⟨q0, qz, qP, va_K.moved (u := U) (U := U.calling g mk a) (Vm.Alike.refl U.vm) qK, va_AO.moved (u := U) (U := U.calling g mk a) (Vm.Alike.refl U.vm) qN⟩
  have hpre : ∀ U : State, U.heap = H → s.WarmedH U.vm → va_Pc (.ref b :: As) (fun U => U.heap.size = H.size ∧ va_P D zt_cl wp U.heap ∧ va_K D zt_cl tys U ∧ va_AO "FrameProcessor$Task" U) (.ref b :: As).toArray U := fun U hU hW => ⟨rfl, by rw [hU], by rw [hU]; exact hPc, va_K.moved hW.alike hK, hN U locs (by rw [hU]; exact hS) hW⟩
  have hG : GoodIn Ts (Cond.code y bytes maxL none :: Ts) := fun w hw => by
    have hw' : w ∈ Ts := (List.mem_cons.mp hw).elim (fun h => h ▸ hcd) id
    exact ⟨hw', good_of_word (hgood w hw')⟩
  refine va_callv (va_runI (b := b) (As := As) (rest := rest) ⟨hx, hb, hml, hown, hts⟩ hM1 (cwI n hts hG rfl hrc hrs (hts _ hini) (hts _ hlk0) (hts _ hins) hy1 hd ⟨Nat.le_trans hR.1 hF, Nat.le_trans hR.2 hKl⟩) ⟨hFB, hpre⟩ rfl hn hl.1 hstk hroom d hcs) hS (fun q _ h => hFc q h) hFc (fun f t H1 locs1 ht hvm _ hB hz hk1 hS1 => ?_)
  obtain ⟨hP1, hD1⟩ := hB
  rw [ht] at hP1
  obtain ⟨hPj, hDj⟩ := va_join (wr := wr) (w1 := post f) hP (hD ()) isC isR hC hRr hnR hdis hk1 hFc hP1 hD1
  exact z f (zk_X h0 hDj) o hk0 H1 locs1 ls hPj hS1 hl
end ZK
