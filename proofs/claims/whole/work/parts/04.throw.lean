/-! a walk begun anew where it stands: the state there is taken for the state of the call -/
theorem zz_rebase {p : Program} {l : Launch} {e : Env} {R : Room} {s : State} {m : MethodId} {args : Array Value} {below : List Frame} {meth : Method} {c : Code} {T : State} {locs : List Loc} {cells slots : Nat}
    (X : Stand p l e R s m args below meth c T locs cells slots) (hc : cells ≤ R.cells) (hs : slots ≤ R.slots) :
    Stand p l e { frames := R.frames, cells := R.cells - cells, slots := R.slots - slots, locals := R.locals } (T.setFrames (.invoking m args :: below)) m args below meth c T [] 0 0 := by
  obtain ⟨g₀, hfr⟩ := X.frames_eq
  have hcur : T.cur < T.threads.size := State.cur_lt_of_frames hfr
  have hF : (T.setFrames (.invoking m args :: below)).frames = .invoking m args :: below := State.frames_setFrames _ hcur
  have hm' : (T.setFrames (.invoking m args :: below)).vm.method? m = some meth := X.method'
  have hlim : e.platform.stackLimits (T.setFrames (.invoking m args :: below)).me = e.platform.stackLimits s.me := by
    rw [State.stackLimits_setFrames]; exact X.limits
  have hby : (T.setFrames (.invoking m args :: below)).me.stackBytes = s.me.stackBytes := by
    rw [State.stackBytes_setFrames]; exact X.bytes
  have hloc : (T.setFrames (.invoking m args :: below)).localsInUse = s.localsInUse := by
    rw [State.localsInUse_invoking hF hm' X.code, State.localsInUse_invoking X.frames X.method X.code]
  have hlen : (T.setFrames (.invoking m args :: below)).frames.length = s.frames.length := by rw [hF, X.frames]
  have hh : (T.setFrames (.invoking m args :: below)).heap.size = T.heap.size := rfl
  have hu : (T.setFrames (.invoking m args :: below)).slotsUsed = T.slotsUsed := rfl
  obtain ⟨th, hth, -⟩ := State.frames_cons hfr
  refine ⟨X.admits, X.cas, X.clock, hF, ?_, ?_, hm', X.code, X.here, X.tail, State.WarmedH.refl _, ?_, ?_, ?_⟩
  · have h := X.room
    have hbk : (T.setFrames (.invoking m args :: below)).slotsTrue = true := X.book
    have h1 := X.heapSize
    have h2 := X.used
    simp only [State.hasRoom, Bool.and_eq_true, decide_eq_true_eq] at h ⊢
    rw [hloc, hlen, hlim, hby, hh, hu]
    obtain ⟨⟨⟨⟨a1, a2⟩, a3⟩, a4⟩, a5⟩ := h
    exact ⟨⟨⟨⟨a1, a2⟩, by omega⟩, by omega⟩, hbk⟩
  · have hal := X.warmed.alike
    have hmeth : (T.setFrames (.invoking m args :: below)).vm.method? m = s.vm.method? m := by
      show T.vm.method? m = s.vm.method? m
      rw [hal.method?]
    have hcode : ∀ mm, (T.setFrames (.invoking m args :: below)).code? mm = s.code? mm := fun mm => by
      rw [State.code?_eq, State.code?_eq]
      show (T.vm.method? mm).bind _ = _
      rw [hal.method?]
    have he : ∀ b : List Frame, (T.setFrames (.invoking m args :: below)).hears m b = s.hears m b := by
      intro b
      cases b with
      | nil => simp only [State.hears, hmeth]
      | cons f r => cases f <;> simp only [State.hears, hmeth, hcode]
    rw [he]
    exact X.hears
  · rw [State.stackLimits_setFrames]
  · rw [State.stackBytes_setFrames]
  · show (T.setFrames (.invoking m args :: below)).sameButNew T [] 0 0
    have h := State.sameButNew.refl T hth
    refine ⟨?_, h.2⟩
    show T = { (T.setFrames (.invoking m args :: below)).setFrames T.frames with heap := T.heap, slotsUsed := T.slotsUsed }
    rw [State.setFrames_setFrames]
    exact h.1
theorem zz_reW {p : Program} {l : Launch} {e : Env} {R : Room} {s : State} {m : MethodId} {args : Array Value} {below : List Frame} {meth : Method} {c : Code} {H : Heap} {locs : List Loc} {cells slots : Nat} {Q : State → Prop} {g : JFrame} (hc : cells ≤ R.cells) (hs : slots ≤ R.slots)
    (k : ∀ T : State, T.heap = H → Stand p l e R s m args below meth c T locs cells slots → W p l e { frames := R.frames, cells := R.cells - cells, slots := R.slots - slots, locals := R.locals } (T.setFrames (.invoking m args :: below)) m args below meth c H [] 0 0 Q g) : W p l e R s m args below meth c H locs cells slots Q g :=
  fun T hT X => k T hT X T hT (zz_rebase X hc hs)
/-- of two states between which no old slot has changed: the old cells are the same -/
theorem zz_same {s t : State} {k n : Nat} (h : s.sameButNew t [] k n) {a : Nat} {cell : Cell} (hc : s.heap[a]? = some cell) : t.heap[a]? = some cell := by
  obtain ⟨c', h1, h2, h3, h4⟩ := h.2.2.2.2.2 a cell hc
  have e : c'.slots = cell.slots := Array.ext_getElem? (fun i => h4 i (by simp))
  rw [h1, h2, e]
def zz_thA (own cls : String) (names : List String) (inw ic : Nat) : List Cond := [.classLink own inw cls, .initialized cls] ++ Bundle.ownAtoms0 own ic cls names
/-- new, dup, the constructor, athrow -/
theorem zz_Wthrow {p : Program} {l : Launch} {e : Env} {R : Room} {s : State} {m : MethodId} {args : Array Value} {below : List Frame} {meth : Method} {c : Code} {cc : ByteArray} {H : Heap} {locs : List Loc} {cells slots : Nat} {Q : State → Prop} {own cls : String} {names : List String} {inw ic pc : Nat} {ls : Array Slot}
    (hx : p.tables.exec = Jvm.exec) (hb : c.code = cc) (htr : l.stackTraces = false) (hc : cells + 1 ≤ R.cells) (hs : slots + 6 ≤ R.slots) (hown : s.vm.findClass own = some m.cls) (hcls : Bundle.fit cls = true) (hnames : ∀ n ∈ names, Bundle.fit n = true)
    (d0 : decode cc pc = .ok (.new inw, 3)) (d3 : decode cc (pc + 3) = .ok (.dup, 1)) (d4 : decode cc (pc + 3 + 1) = .ok (.invokespecial ic, 3)) (d7 : decode cc (pc + 3 + 1 + 3) = .ok (.athrow, 1)) (hout : c.exceptionTable.isEmpty = true) (hlk : meth.locks = false) (hsz : ls.size = c.maxLocals)
    (hRf : names.length + 3 < R.frames) (hRl : 1 + (13 * (names.length + 1) + 41) ≤ R.locals)
    (hat : ∀ T : State, T.heap = H → s.WarmedH T.vm → ∀ a ∈ zz_thA own cls names inw ic, a.before args T = true)
    (hQ : ∀ (U : State) (x : Nat) (ce : Cell), U.status = .running → Ended U below (.threw x) → U.heap[x]? = some ce → s.vm.findClass cls = some ce.cls → ce.vm.isStatics = false → H.size ≤ x → (∀ q : Nat, q < H.size → U.heap[q]? = H[q]?) → H.size ≤ U.heap.size → s.WarmedH U.vm → s.sameButNew ({ U with vm := s.vm } : State) locs (cells + 1) (slots + 6) → Q U) :
    W p l e R s m args below meth c H locs cells slots Q (F0 m pc ls []) := by
  refine zz_reW (Nat.le_trans (Nat.le_succ _) hc) (Nat.le_trans (Nat.le_add_right _ 6) hs) (fun T0 hT0 X0 => ?_)
  have hA : ∀ a ∈ zz_thA own cls names inw ic, a.before args (T0.setFrames (.invoking m args :: below)) = true := fun a ha => by
    rw [Cond.before_setFrames]; exact hat T0 hT0 X0.warmed a ha
  have hown' : (T0.setFrames (.invoking m args :: below)).vm.findClass own = some m.cls := by
    show T0.vm.findClass own = some m.cls
    rw [X0.warmed.alike.findClass]; exact hown
  have hfree : ∀ x ∈ c.exceptionTable.toList, covers x (pc + 3 + 1 + 3) = false := fun x hx0 => by
    have : c.exceptionTable.toList = [] := by simpa using hout
    rw [this] at hx0; cases hx0
  refine W.newc (n := 6) (C := cls) hx hb hown' (hA _ (by simp [zz_thA])) (hA _ (by simp [zz_thA, Bundle.ownAtoms0])) (hA _ (by simp [zz_thA])) rfl d0 (by show 0 + 1 ≤ R.cells - cells; omega) (by show 0 + 6 ≤ R.slots - slots; omega) (fun cX kX hfX hkX hord hn6 => ?_)
  refine lv_dup hx hb d3 rfl ?_
  intro T hT X
  have hsz2 : H.size = T0.heap.size := by rw [hT0]
  obtain ⟨U, hst, hrun, hend, hW, hsame, ce, hce, hown2⟩ := X.ctorThrow0 hx (by rw [X0.admits.platform]; exact htr) (own := own) (cls := cls) (names := names) (ic := ic) hown' hcls hnames (fun a ha => hA a (by unfold zz_thA; exact List.mem_append_right _ ha)) (fun x hx0 => by cases hx0)
    (a := H.size) hfX hkX (by rw [hT]; simp) (by show T0.heap.size ≤ H.size; rw [hT0]; exact Nat.le_refl _) (g := F0 m (pc + 3 + 1) ls [.ref H.size, .ref H.size]) rfl hsz rfl rfl (rest := []) rfl (by rw [hb]; exact d4) (by rw [hb]; exact d7) hfree hRf hRl (hlocks := hlk)
  refine ⟨U, hst, hQ U H.size ce hrun hend hce ?_ ?_ (Nat.le_refl _) ?_ ?_ ?_ ?_⟩
  · have h1 : T0.vm.findClass cls = some ce.cls := hown2.cls
    rw [X0.warmed.alike.findClass] at h1
    exact h1
  · rw [hown2.vm]; rfl
  · intro q hq
    have hq0 : q < T0.heap.size := by rw [hT0]; exact hq
    have h1 : (T0.setFrames (.invoking m args :: below)).heap[q]? = some (T0.heap[q]) := Array.getElem?_eq_getElem hq0
    have h2 := zz_same hsame h1
    have h3 : T0.heap[q]? = some (T0.heap[q]) := Array.getElem?_eq_getElem hq0
    rw [← hT0, h3]
    exact h2
  · have := hsame.2.1
    have h2 : T0.heap.size ≤ U.heap.size := this
    rw [← hT0]; exact h2
  · exact State.WarmedH.trans X0.warmed hW
  · have h1 : T0.sameButNew (U.setVm T0.vm) [] 1 6 := by
      refine ⟨?_, hsame.2⟩
      have h2 := hsame.1
      rw [State.setFrames_setFrames] at h2
      exact h2
    have h3 := X0.same.trans (h1.setVm s.vm)
    rw [List.append_nil] at h3
    exact h3
