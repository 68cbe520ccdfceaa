/-! what the tables say at the start -/
theorem zkn_FP : Cond.instantiable "FrameProcessor" 3 ∈ zt_T := zt_of1 18 (by decide +kernel) rfl
theorem zkn_MO : Cond.instantiable "FrameProcessorModel" 32 ∈ zt_T := zt_of4 52 (by decide +kernel) rfl
theorem zkc_LA_8 : Cond.classLink "FrameProcessorLaw" 8 "FrameProcessor" ∈ zt_T := zt_of1 17 (by decide +kernel) rfl
theorem zkc_LA_54 : Cond.classLink "FrameProcessorLaw" 54 "FrameProcessorModel" ∈ zt_T := zt_of4 51 (by decide +kernel) rfl
theorem zm_LA_53 : Cond.methodLink "FrameProcessorLaw" 53 yFP_init ∈ zt_T := zt_of1 19 (by decide +kernel) rfl
theorem zm_LA_56 : Cond.methodLink "FrameProcessorLaw" 56 yMO_init ∈ zt_T := zt_of4 53 (by decide +kernel) rfl
theorem zo_FP_init : Cond.instanceMethod yFP_init ∈ zt_T := zt_of1 20 (by decide +kernel) rfl
theorem zo_MO_init : Cond.instanceMethod yMO_init ∈ zt_T := zt_of4 54 (by decide +kernel) rfl
theorem zd_FP_init : Cond.code yFP_init prog_1_method_1_code 1 none ∈ zt_T := zt_of1 21 (by decide +kernel) rfl
theorem zd_MO_init : Cond.code yMO_init prog_10_method_1_code 2 none ∈ zt_T := zt_of4 55 (by decide +kernel) rfl
theorem zt_bef {A : Array Value} {s : State} (hts : ∀ w ∈ lw_tbl, w.before A s = true) : ∀ w ∈ zt_T, w.before A s = true := fun w hw => hts w (List.mem_filter.mp hw).1
theorem zw_arr {A : Array Value} {s : State} {ty : FieldType} (h : (Cond.arrayClass ty).before A s = true) (hr : ∀ (U : State) (c : ClassId), U.vm.findClass ("[" ++ ty.toString) = some c → va_RA U c ty) : ∃ c, ArrOfT s c ty ∧ va_RA s c ty := by
  obtain ⟨c, k, comp, h1, h2, h3⟩ := Cond.arrayClass_spec h
  exact ⟨c, fun n z => ⟨fun k h => (by cases h), k, h2, comp, h3⟩, hr s c h1⟩
theorem zw_K {A : Array Value} {s : State} (hts : ∀ w ∈ lw_tbl, w.before A s = true) : ∃ (D : va_G) (cI cZ cT cL : ClassId), va_K D zt_cl [(cI, .int), (cZ, .boolean), (cT, .object "FrameProcessor$Task"), (cL, .long)] s := by
  have hz := zt_bef hts
  obtain ⟨c0, i0, k0⟩ := u_known hz zi_FP (hz _ zkn_FP)
  obtain ⟨c1, i1, k1⟩ := u_known hz zi_ME (hz _ zkn_ME)
  obtain ⟨c2, i2, k2⟩ := u_known hz zi_RO (hz _ zkn_RO)
  obtain ⟨c3, i3, k3⟩ := u_known hz zi_PR (hz _ zkn_PR)
  obtain ⟨c4, i4, k4⟩ := u_known hz zi_FR (hz _ zkn_FR)
  obtain ⟨c5, i5, k5⟩ := u_known hz zi_WS (hz _ zkn_WS)
  obtain ⟨c6, i6, k6⟩ := u_known hz zi_IN (hz _ zkn_IN)
  obtain ⟨c7, i7, k7⟩ := u_known hz zi_TA (hz _ zkn_TA)
  obtain ⟨c8, i8, k8⟩ := u_known hz zi_MO (hz _ zkn_MO)
  obtain ⟨cI, aI, rI⟩ := zw_arr (hz _ zq_int) (fun U c h => h)
  obtain ⟨cZ, aZ, rZ⟩ := zw_arr (hz _ zq_boolean) (fun U c h => h)
  obtain ⟨cL, aL, rL⟩ := zw_arr (hz _ zq_long) (fun U c h => h)
  obtain ⟨comp, cT, k, h1, h2, h3, h4, h5⟩ := Cond.arrayOver_spec (hts _ (List.mem_append_right _ (List.mem_of_getElem? (i := 65) (by decide +kernel) : Cond.arrayOver (.object "FrameProcessor$Task") ∈ tables_1)))
  refine ⟨(fun n => [c0, c1, c2, c3, c4, c5, c6, c7, c8].getD n c0, fun n => [i0, i1, i2, i3, i4, i5, i6, i7, i8].getD n i0), cI, cZ, cT, cL, fun c q hq => ?_, fun n q hq => ?_⟩
  · match c, hq with
    | 0, hq => cases hq; exact k0
    | 1, hq => cases hq; exact k1
    | 2, hq => cases hq; exact k2
    | 3, hq => cases hq; exact k3
    | 4, hq => cases hq; exact k4
    | 5, hq => cases hq; exact k5
    | 6, hq => cases hq; exact k6
    | 7, hq => cases hq; exact k7
    | 8, hq => cases hq; exact k8
    | n + 9, hq => cases hq
  · match n, hq with
    | 0, hq => cases hq; exact ⟨aI, rI⟩
    | 1, hq => cases hq; exact ⟨aZ, rZ⟩
    | 2, hq => cases hq; exact ⟨fun n z => ⟨fun k h => (by cases h), k, h3, comp, h4⟩, k, comp, h3, h4, h1, h5⟩
    | 3, hq => cases hq; exact ⟨aL, rL⟩
    | n + 4, hq => cases hq
