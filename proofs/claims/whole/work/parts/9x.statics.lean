/-! the static fields at the start -/
def zw_sf (A : Nat → Prop) (tb : Nat) (U : State) : Prop := va_Z "FrameProcessor$Instruction" "OPERAND_BYTES" "[I" (.ref tb) A U U.heap ∧ va_T .int tb 46 (fun j => .int (zc_tab j)) A U U.heap ∧ zx_Z Bundle.tN "UNASSIGNED_STACK" Bundle.steD A U U.heap ∧ zx_Z Bundle.tN "SUPPRESSED_SENTINEL" Bundle.listD A U U.heap ∧ (∀ w ∈ zx_n, va_Nw w U) ∧ va_Nc "java/lang/IllegalStateException" "java/lang/IndexOutOfBoundsException" U
theorem zw_sfl {A : Nat → Prop} {tb : Nat} {s : State} {aC aM : Nat → Nat} {aO : Nat} (h : zw_sf A tb s) (hA : ∀ q, zl_as aC aM aO q → A q) (U : State) (lc : List Loc) (hS : va_S A s.heap U.heap lc) (hW : s.WarmedH U.vm) : zl_sf aC aM aO tb U :=
  ⟨((h.1.kept (fun a h1 h2 => hS.2.1 a h1 h2)).moved hW.alike).narrow hA, ((h.2.1.kept (fun a h1 h2 => hS.2.1 a h1 h2)).moved hW.alike).narrow hA, ((h.2.2.1.kept (fun a h1 h2 => hS.2.1 a h1 h2)).moved hW.alike).narrow hA, ((h.2.2.2.1.kept (fun a h1 h2 => hS.2.1 a h1 h2)).moved hW.alike).narrow hA, zx_nm hW h.2.2.2.2.1, h.2.2.2.2.2.moved hW.alike⟩
theorem zw_tab : ∀ j, j < 46 → Cond.eq (.elem (.static "FrameProcessor$Instruction" "OPERAND_BYTES" "[I") (.int (Int32.ofNat j))) (.int (zc_tab j)) ∈ flatC (Jvm.Cond.and given_1 narrow_1) := by decide +kernel
theorem zw_S {A : Nat → Prop} {args : Array Value} {s : State} (hts : ∀ w ∈ lw_tbl, w.before args s = true) (hgv : (Jvm.Cond.and given_1 narrow_1).before args s = true) (hA : ∀ a : Nat, a < s.heap.size → ¬ A a) : ∃ tb, zw_sf A tb s := by
  have hf := flat_of_before _ hgv
  have tw : ∀ (n : Nat) {w : Cond}, tables_1[n]? = some w → w.before args s = true := fun n w h => hts w (List.mem_append_right _ (List.mem_of_getElem? h))
  have harr : (Cond.arrayOf (.static "FrameProcessor$Instruction" "OPERAND_BYTES" "[I") .int).before args s = true := hf _ (by decide +kernel)
  have hlen : (Cond.eq (.length (.static "FrameProcessor$Instruction" "OPERAND_BYTES" "[I")) (.int 46)).before args s = true := hf _ (by decide +kernel)
  obtain ⟨tb, ht, hT⟩ := va_Tof (N := 46) (f := fun j => .int (zc_tab j)) (A := A) (by decide) harr (va_eqt hlen) (fun j hj => va_eqt (hf _ (zw_tab j hj))) hA
  refine ⟨tb, va_Zof (tw 587 (by decide +kernel)) (tw 8 (by decide +kernel)) ht hA, hT, zx_Zof (tw 357 (by decide +kernel)) (hf _ (by decide +kernel)) hA, zx_Zof (tw 359 (by decide +kernel)) (hf _ (by decide +kernel)) hA, fun w hw => ?_, va_Nc.of (args := args) (hf _ (by decide +kernel))⟩
  simp only [zx_n, List.mem_cons, List.not_mem_nil, or_false] at hw
  rcases hw with rfl | rfl | rfl | rfl | rfl | rfl
  · exact va_Nw.of rfl (tw 333 (by decide +kernel))
  · exact va_Nw.of rfl (tw 335 (by decide +kernel))
  · exact va_Nw.of rfl (tw 337 (by decide +kernel))
  · exact va_Nw.of rfl (tw 332 (by decide +kernel))
  · exact va_Nw.of rfl (tw 436 (by decide +kernel))
  · exact va_Nw.of rfl (tw 555 (by decide +kernel))
