/-! from the entry to the end -/
set_option maxHeartbeats 4000000 in
set_option maxRecDepth 100000 in
/-- from the entry, for every script of at most 1536 ints, the law comes to its end with true -/
theorem whole_start {p : Program} {e : Env} {s : State} {m : MethodId} {below : List Frame} {meth : Method} {c : Code} (l : Launch) (htr : l.stackTraces = false) {b L : Nat} {xs : Nat → Int32} (hL : L ≤ 1536) (C0 : lw_At p s m meth c b L xs) : W p l e room_1 s m #[Value.ref b] below meth c s.heap [] 0 0 (lw_Z below #[Value.ref b] s) (entryFrame m ([Value.ref b] : List Value).toArray 7) := by
  obtain ⟨hx, hb, hr, hml, hown, hts, hX, hbl, hlk, hgv⟩ := C0
  obtain ⟨D, cI, cZ, cT, cL, hK⟩ := zw_K hts
  have hz := zt_bef hts
  obtain ⟨tb, hsf⟩ := zw_S (A := fun q => s.heap.size ≤ q) hts hgv (fun a h1 h2 => absurd h1 (Nat.not_lt.mpr h2))
  have hAO : va_AO "FrameProcessor$Task" s := va_AO.of (hts _ (List.mem_append_right _ (List.mem_of_getElem? (i := 65) (by decide +kernel) : Cond.arrayOver (.object "FrameProcessor$Task") ∈ tables_1)))
  have hX0 : zz_X (zk_V l D [(cI, .int), (cZ, .boolean), (cT, .object "FrameProcessor$Task"), (cL, .long)] (fun q => s.heap.size ≤ q) []) (p, e, room_1, s, m, #[Value.ref b], below, meth, c, (fun q => s.heap.size ≤ q), 0, 0) "FrameProcessorLaw" code 7 zt_T 12 484 (some .boolean) :=
    ⟨⟨hx, hb, hml, hown, hz⟩, hK, fun U lc hS hW => va_AO.moved hW.alike hAO, ⟨fun _ => va_D_nil, fun u U lc h1 _ hW => va_AO.moved hW.alike h1⟩, fun _ h => h, hlk, hr, Nat.le_of_ble_eq_true rfl, Nat.le_of_ble_eq_true rfl⟩
  obtain ⟨st', hst⟩ := zlaw0 (xs := xs) hL (o := 0) zI_start
  have hw := law_pre (b := b) (inj := fun _ => zl_fin (p, e, room_1, s, m, #[Value.ref b], below, meth, c, (fun q => s.heap.size ≤ q), 0, 0) b ((1 : Int32), st')) hX0 ⟨rfl, fun q h => h⟩ ⟨Nat.le_of_ble_eq_true rfl, Nat.le_of_ble_eq_true rfl⟩ (fun h0 f h1 g o h => by
    obtain ⟨-, -, -, ⟨hD, -⟩, -⟩ := h
    obtain ⟨hap, hAs⟩ := zwA_D (hD ())
    have hXl : zz_X (zl_V l D (zaC h0 f) (zaM h1 g) o (zcC cI cZ cT) (zcM cI cZ cL) cL tb) (p, e, room_1, s, m, #[Value.ref b], below, meth, c, (fun q => s.heap.size ≤ q), 0, 0) "FrameProcessorLaw" code 7 zt_T 12 484 (some .boolean) :=
      ⟨⟨hx, hb, hml, hown, hz⟩, zl_tys hK, fun U lc hS hW => zw_sfl hsf hAs U lc hS hW, ⟨hap, fun u U lc h hS hW => zl_sfm u U lc h hS hW⟩, hAs, hlk, hr, Nat.le_of_ble_eq_true rfl, Nat.le_of_ble_eq_true rfl⟩
    exact zk_zl (tb := tb) (st0 := (zC0, zM0, 0)) hst (fun H hP => zwA_P hP) (LA_law_23_w (b := b) (L := L) (xs := xs) hap ⟨fun st => zl_apC hap st, fun u U lc h hS hW => zc_sfm (zaC h0 f) tb u U lc h hS hW⟩ ⟨fun st => zl_apM hap st, fun _ _ _ _ _ _ => trivial⟩ htr hXl ⟨hX, hbl, Nat.not_le.mpr hbl⟩ ⟨rfl, rfl, fun q h => h, hr⟩ (fun q h => h) 513 46 6692 ⟨Nat.le_of_ble_eq_true rfl, Nat.le_of_ble_eq_true rfl⟩ 0 (zC0, zM0, 0)))
  have hl := lv_entry ([.ref b]) (n := 7) (Nat.le_of_ble_eq_true rfl)
  rw [lg_entry_eq]
  have hW := hw ((), ()) rfl s.heap [] _ (fun k q hq => by cases hq) va_S.rf (zz_has_of hl rfl)
  intro T hT X
  obtain ⟨t, a1, b1⟩ := hW T hT X
  exact ⟨t, a1, b1 rfl⟩
