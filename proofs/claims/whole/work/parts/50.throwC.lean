def zx_h : List Cond := [.laysStatic Bundle.tN "UNASSIGNED_STACK" Bundle.steD, .isRef (.static Bundle.tN "UNASSIGNED_STACK" Bundle.steD), .laysStatic Bundle.tN "SUPPRESSED_SENTINEL" Bundle.listD, .isRef (.static Bundle.tN "SUPPRESSED_SENTINEL" Bundle.listD)]
theorem zx_hs {l : Launch} {D : va_G} {ad : Nat → Nat} {cA : Nat → ClassId} {tb : Nat} {a : Cond} (ha : a ∈ zx_h ++ zx_n) (U : State) (A0 : Array Value) (hU : zz_sf (zc_V l D ad cA tb) U) : a.before A0 U = true := by
  obtain ⟨-, -, h1, h2, h3⟩ := hU
  refine (List.mem_append.mp ha).elim (fun ha => ?_) (fun ha => zx_nu h3 ha A0)
  simp only [zx_h, List.mem_cons, List.not_mem_nil, or_false] at ha
  rcases ha with rfl | rfl | rfl | rfl
  · exact h1.lays A0
  · exact h1.ref A0
  · exact h2.lays A0
  · exact h2.ref A0
set_option maxRecDepth 100000 in
theorem zc_th0a : (zz_thA "FrameProcessor" "java/lang/IndexOutOfBoundsException" ["java/lang/RuntimeException", "java/lang/Exception"] 39 41).all (fun a => decide (a ∈ zt_T) || decide (a ∈ zx_h ++ zx_n)) = true := by decide +kernel
theorem zc_th0 {l : Launch} {D : va_G} {ad : Nat → Nat} {cA : Nat → ClassId} {tb : Nat} : ∀ a ∈ zz_thA "FrameProcessor" "java/lang/IndexOutOfBoundsException" ["java/lang/RuntimeException", "java/lang/Exception"] 39 41, a ∈ zt_T ∨ ∀ (U : State) (A0 : Array Value), zz_sf (zc_V l D ad cA tb) U → a.before A0 U = true := fun a ha => by
  have h := List.all_eq_true.mp zc_th0a a ha
  simp only [Bool.or_eq_true, decide_eq_true_eq] at h
  exact h.imp id (fun h U A0 hU => zx_hs h U A0 hU)
set_option maxRecDepth 100000 in
theorem zc_th1a : (zz_thA "FrameProcessor" "java/lang/IllegalStateException" ["java/lang/RuntimeException", "java/lang/Exception"] 60 62).all (fun a => decide (a ∈ zt_T) || decide (a ∈ zx_h ++ zx_n)) = true := by decide +kernel
theorem zc_th1 {l : Launch} {D : va_G} {ad : Nat → Nat} {cA : Nat → ClassId} {tb : Nat} : ∀ a ∈ zz_thA "FrameProcessor" "java/lang/IllegalStateException" ["java/lang/RuntimeException", "java/lang/Exception"] 60 62, a ∈ zt_T ∨ ∀ (U : State) (A0 : Array Value), zz_sf (zc_V l D ad cA tb) U → a.before A0 U = true := fun a ha => by
  have h := List.all_eq_true.mp zc_th1a a ha
  simp only [Bool.or_eq_true, decide_eq_true_eq] at h
  exact h.imp id (fun h U A0 hU => zx_hs h U A0 hU)
set_option maxRecDepth 100000 in
theorem zc_th2a : (zz_thA "FrameProcessor" "java/lang/IllegalArgumentException" ["java/lang/RuntimeException", "java/lang/Exception"] 74 76).all (fun a => decide (a ∈ zt_T) || decide (a ∈ zx_h ++ zx_n)) = true := by decide +kernel
theorem zc_th2 {l : Launch} {D : va_G} {ad : Nat → Nat} {cA : Nat → ClassId} {tb : Nat} : ∀ a ∈ zz_thA "FrameProcessor" "java/lang/IllegalArgumentException" ["java/lang/RuntimeException", "java/lang/Exception"] 74 76, a ∈ zt_T ∨ ∀ (U : State) (A0 : Array Value), zz_sf (zc_V l D ad cA tb) U → a.before A0 U = true := fun a ha => by
  have h := List.all_eq_true.mp zc_th2a a ha
  simp only [Bool.or_eq_true, decide_eq_true_eq] at h
  exact h.imp id (fun h U A0 hU => zx_hs h U A0 hU)
