/-! numbers of 32 bits as naturals -/
theorem zi_tn {n : Nat} (h : n < 2 ^ 32) : (nI n).toBitVec.toNat = n := by
  show (BitVec.ofNat 32 n).toNat = n
  rw [BitVec.toNat_ofNat, Nat.mod_eq_of_lt h]
theorem zi_of (x : Int32) : x = nI x.toBitVec.toNat := by
  apply Int32.toBitVec_inj.1
  show x.toBitVec = BitVec.ofNat 32 x.toBitVec.toNat
  simp
theorem zi_ex (x : Int32) : ∃ n, n < 2 ^ 32 ∧ x = nI n := ⟨_, x.toBitVec.isLt, zi_of x⟩
theorem zi_and (a b : Nat) : nI a &&& nI b = nI (a &&& b) := by
  apply Int32.toBitVec_inj.1
  show BitVec.ofNat 32 a &&& BitVec.ofNat 32 b = BitVec.ofNat 32 (a &&& b)
  apply BitVec.eq_of_getLsbD_eq
  intro i hi
  simp [hi]
theorem zi_or (a b : Nat) : nI a ||| nI b = nI (a ||| b) := by
  apply Int32.toBitVec_inj.1
  show BitVec.ofNat 32 a ||| BitVec.ofNat 32 b = BitVec.ofNat 32 (a ||| b)
  apply BitVec.eq_of_getLsbD_eq
  intro i hi
  simp [hi]
theorem zi_mul (a b : Nat) : nI a * nI b = nI (a * b) := (Int32.ofNat_mul a b).symm
theorem zi_sub {a b : Nat} (h : b ≤ a) : nI a - nI b = nI (a - b) := by
  have h1 : nI a = nI (a - b) + nI b := by rw [nI_add, Nat.sub_add_cancel h]
  rw [h1, Int32.add_sub_cancel]
theorem zi_div {a b : Nat} (ha : a < 2 ^ 31) (hb : b < 2 ^ 31) : nI a / nI b = nI (a / b) := by
  apply Int32.toInt_inj.mp
  have h1 : a / b ≤ a := Nat.div_le_self a b
  have h2 : (nI a / nI b).toInt = ((a : Int).tdiv (b : Int)).bmod (2 ^ 32) := by rw [Int32.toInt_div, nI_toInt ha, nI_toInt hb]
  rw [h2, nI_toInt (by omega), ← Int.ofNat_tdiv]
  generalize a / b = q at *
  apply Int.bmod_eq_of_le <;> omega
theorem zi_rem {a b : Nat} (ha : a < 2 ^ 31) (hb : b < 2 ^ 31) : zz_rem (nI a) (nI b) = nI (a % b) := by
  unfold zz_rem
  rw [zi_div ha hb, zi_mul, zi_sub (Nat.div_mul_le_self a b)]
  congr 1
  have := Nat.div_add_mod a b
  rw [Nat.mul_comm] at this
  omega
theorem zi_in {k N : Nat} (hN : N ≤ 2 ^ 31) (h : k < N) : zz_in (nI k) N = true := by
  have hk : k < 2 ^ 31 := by omega
  unfold zz_in
  rw [nI_clamp hk]
  simp only [Bool.and_eq_true, Bool.not_eq_true', decide_eq_false_iff_not]
  exact ⟨nI_pos hk, Nat.ble_eq_true_of_le h⟩
theorem zi_z {n : Nat} (h : n < 2 ^ 31) : nI n = 0 ↔ n = 0 := by
  have := nI_eq (a := n) (b := 0) h (by decide)
  rw [nI_0] at this
  exact this
theorem zi_le0 {n : Nat} (h : n < 2 ^ 31) : nI n ≤ 0 ↔ n = 0 := by
  have := nI_leI (a := n) (b := 0) h (by decide)
  rw [nI_0] at this
  rw [this]; omega
theorem zi_lt0 {n : Nat} (h : n < 2 ^ 31) : 0 < nI n ↔ n ≠ 0 := by
  have := nI_ltI (a := 0) (b := n) (by decide) h
  rw [nI_0] at this
  rw [this]; omega
theorem zi_m1 {n : Nat} (h : n < 2 ^ 31) : ¬ nI n = -1 := by
  intro e
  have h1 := congrArg Int32.toInt e
  rw [nI_toInt h] at h1
  have h2 : (-1 : Int32).toInt = -1 := by decide
  omega
theorem zi_m1' {n : Nat} (h : n < 2 ^ 31) : ¬ (-1 : Int32) = nI n := fun e => zi_m1 h e.symm
theorem zi_or3 : ∀ n, n < 4 → nI n ||| 3 = 3 := by decide +kernel
theorem zi_or1 : ∀ n, n < 4 → ∃ w, w < 4 ∧ nI n ||| 1 = nI w := by
  intro n h
  match n, h with
  | 0, _ => exact ⟨1, by decide, by decide +kernel⟩
  | 1, _ => exact ⟨1, by decide, by decide +kernel⟩
  | 2, _ => exact ⟨3, by decide, by decide +kernel⟩
  | 3, _ => exact ⟨3, by decide, by decide +kernel⟩
/-! an address: its page, its place there -/
def zi_bt (x : Int32) (i : Nat) : Bool := x.toBitVec.getLsbD i
theorem zi_ext {x y : Int32} (h : ∀ i, i < 32 → zi_bt x i = zi_bt y i) : x = y := Int32.toBitVec_inj.mp (BitVec.eq_of_getLsbD_eq (fun i hi => h i hi))
theorem zi_bt_and (x y : Int32) (i : Nat) : zi_bt (x &&& y) i = (zi_bt x i && zi_bt y i) := by unfold zi_bt; rw [Int32.toBitVec_and, BitVec.getLsbD_and]
theorem zi_bt_or (x y : Int32) (i : Nat) : zi_bt (x ||| y) i = (zi_bt x i || zi_bt y i) := by unfold zi_bt; rw [Int32.toBitVec_or, BitVec.getLsbD_or]
theorem zi_bt_nI (n : Nat) {i : Nat} (h : i < 32) : zi_bt (nI n) i = n.testBit i := by
  show (BitVec.ofNat 32 n).getLsbD i = _
  rw [BitVec.getLsbD_ofNat]
  simp [h]
theorem zi_sl : ∀ n, n < 32 → ((nI n &&& 31).toBitVec.smod 32).toNat = n := by decide +kernel
theorem zi_bt_shr (n : Nat) (hn : n < 32) (x : Int32) {i : Nat} (hi : i < 32) : zi_bt (x >>> (nI n &&& 31)) i = if n + i < 32 then zi_bt x (n + i) else zi_bt x 31 := by
  unfold zi_bt
  rw [Int32.toBitVec_shiftRight]
  show (x.toBitVec.sshiftRight ((nI n &&& 31).toBitVec.smod 32).toNat).getLsbD i = _
  rw [zi_sl n hn, BitVec.getLsbD_sshiftRight, BitVec.msb_eq_getLsbD_last]
  simp [hi]
theorem zi_bt_shl (n : Nat) (hn : n < 32) (x : Int32) {i : Nat} (hi : i < 32) : zi_bt (x <<< (nI n &&& 31)) i = (decide (n ≤ i) && zi_bt x (i - n)) := by
  unfold zi_bt
  rw [Int32.toBitVec_shiftLeft]
  show (x.toBitVec <<< ((nI n &&& 31).toBitVec.smod 32).toNat).getLsbD i = _
  rw [zi_sl n hn, BitVec.getLsbD_shiftLeft]
  rcases Nat.lt_or_ge i n with h | h
  · simp [h, Nat.not_le.mpr h]
  · simp [hi, h, Nat.not_lt.mpr h]
/-- a number without a sign, shifted to the right -/
theorem zi_shr {a n : Nat} (ha : a < 2 ^ 31) (hn : n < 32) : nI a >>> (nI n &&& 31) = nI (a / 2 ^ n) := by
  apply zi_ext
  intro i hi
  rw [zi_bt_shr n hn _ hi, zi_bt_nI _ hi, Nat.testBit_div_two_pow]
  by_cases h : n + i < 32
  · rw [if_pos h, zi_bt_nI _ h, Nat.add_comm]
  · rw [if_neg h, zi_bt_nI _ (by decide), Nat.testBit_lt_two_pow ha, Nat.testBit_lt_two_pow (Nat.lt_of_lt_of_le ha (Nat.pow_le_pow_right (by decide) (by omega)))]
theorem zi_shl (a : Nat) {n : Nat} (hn : n < 32) : nI a <<< (nI n &&& 31) = nI (a * 2 ^ n) := by
  apply zi_ext
  intro i hi
  rw [zi_bt_shl n hn _ hi, zi_bt_nI _ hi, Nat.testBit_mul_two_pow, zi_bt_nI _ (by omega)]
def zi_p (x : Int32) : Nat := x.toBitVec.toNat / 256 % 16
def zi_o (x : Int32) : Nat := x.toBitVec.toNat % 256
theorem zi_p_lt (x : Int32) : zi_p x < 16 := Nat.mod_lt _ (by decide)
theorem zi_o_lt (x : Int32) : zi_o x < 256 := Nat.mod_lt _ (by decide)
theorem zi_bt_x (x : Int32) (i : Nat) : zi_bt x i = x.toBitVec.toNat.testBit i := rfl
theorem zi_page (x : Int32) : (x >>> ((8 : Int32) &&& 31)) &&& (15 : Int32) = nI (zi_p x) := by
  apply zi_ext
  intro i hi
  have e : (8 : Int32) = nI 8 := by decide
  have e2 : (15 : Int32) = nI 15 := by decide
  rw [zi_bt_and, e, zi_bt_shr 8 (by decide) _ hi, zi_bt_nI _ hi, e2, zi_bt_nI _ hi]
  unfold zi_p
  rw [show (16 : Nat) = 2 ^ 4 from rfl, show (256 : Nat) = 2 ^ 8 from rfl, Nat.testBit_mod_two_pow, Nat.testBit_div_two_pow, show (15 : Nat) = 2 ^ 4 - 1 from rfl, Nat.testBit_two_pow_sub_one]
  by_cases h : i < 4
  · rw [if_pos (by omega), zi_bt_x, Nat.add_comm]
    simp [h]
  · simp [h]
theorem zi_off (x : Int32) : x &&& (255 : Int32) = nI (zi_o x) := by
  have e : (255 : Int32) = nI 255 := by decide
  conv => lhs; rw [zi_of x, e, zi_and, show (255 : Nat) = 2 ^ 8 - 1 from rfl, Nat.and_two_pow_sub_one_eq_mod]
  rfl
theorem zi_12 (x : Int32) : x &&& (4095 : Int32) = nI (x.toBitVec.toNat % 4096) := by
  have e : (4095 : Int32) = nI 4095 := by decide
  conv => lhs; rw [zi_of x, e, zi_and, show (4095 : Nat) = 2 ^ 12 - 1 from rfl, Nat.and_two_pow_sub_one_eq_mod]
theorem zi_page' (x : Int32) : (x &&& (4095 : Int32)) / (256 : Int32) = nI (zi_p x) := by
  have e : (256 : Int32) = nI 256 := by decide
  rw [zi_12, e, zi_div (by omega) (by decide)]
  unfold zi_p
  congr 1
  omega
theorem zi_off' (x : Int32) : zz_rem (x &&& (4095 : Int32)) (256 : Int32) = nI (zi_o x) := by
  have e : (256 : Int32) = nI 256 := by decide
  rw [zi_12, e, zi_rem (by omega) (by decide)]
  unfold zi_o
  congr 1
  omega
theorem zi_place (k o : Nat) : nI k * (256 : Int32) + nI o = nI (256 * k + o) := by
  have e : (256 : Int32) = nI 256 := by decide
  rw [e, zi_mul, nI_add, Nat.mul_comm]
theorem zi_place' (k o : Nat) : (256 : Int32) * nI k + nI o = nI (256 * k + o) := by
  have e : (256 : Int32) = nI 256 := by decide
  rw [e, zi_mul, nI_add]
theorem zi_back {k o : Nat} (hk : k < 12) (ho : o < 256) : nI (256 * k + o) / (256 : Int32) = nI k := by
  have e : (256 : Int32) = nI 256 := by decide
  rw [e, zi_div (by omega) (by decide)]
  congr 1
  omega
theorem zi_16 (x : Int32) : x &&& (65535 : Int32) = nI (x.toBitVec.toNat % 65536) := by
  have e : (65535 : Int32) = nI 65535 := by decide
  conv => lhs; rw [zi_of x, e, zi_and, show (65535 : Nat) = 2 ^ 16 - 1 from rfl, Nat.and_two_pow_sub_one_eq_mod]
theorem zi_16' (n : Nat) : nI n &&& (65535 : Int32) = nI (n % 65536) := by
  have e : (65535 : Int32) = nI 65535 := by decide
  rw [e, zi_and, show (65535 : Nat) = 2 ^ 16 - 1 from rfl, Nat.and_two_pow_sub_one_eq_mod]
theorem zi_w (x : Int32) : ∃ w, w < 65536 ∧ x &&& (65535 : Int32) = nI w := ⟨_, Nat.mod_lt _ (by decide), zi_16 x⟩
theorem zi_and_n (n k : Nat) : nI n &&& nI (2 ^ k - 1) = nI (n % 2 ^ k) := by rw [zi_and, Nat.and_two_pow_sub_one_eq_mod]
theorem zi_7 (n : Nat) : nI n &&& (7 : Int32) = nI (n % 8) := zi_and_n n 3
theorem zi_1 (n : Nat) : nI n &&& (1 : Int32) = nI (n % 2) := zi_and_n n 1
theorem zi_3 (n : Nat) : nI n &&& (3 : Int32) = nI (n % 4) := zi_and_n n 2
theorem zi_15 (n : Nat) : nI n &&& (15 : Int32) = nI (n % 16) := zi_and_n n 4
theorem zi_255 (n : Nat) : nI n &&& (255 : Int32) = nI (n % 256) := zi_and_n n 8
theorem zi_4095 (n : Nat) : nI n &&& (4095 : Int32) = nI (n % 4096) := zi_and_n n 12
