/-! BITS of numbers -/
theorem x_smod32 : ∀ k : Fin 32, ((nI k.val &&& 31 : Int32).toBitVec.smod 32) = BitVec.ofNat 32 k.val := by decide
theorem x_shr_bv {a : Int32} {k : Nat} (hk : k < 32) : (a >>> (nI k &&& 31)).toBitVec = a.toBitVec.sshiftRight k := by
  rw [Int32.toBitVec_shiftRight, x_smod32 ⟨k, hk⟩]
  show a.toBitVec.sshiftRight (BitVec.ofNat 32 k).toNat = _
  rw [BitVec.toNat_ofNat, Nat.mod_eq_of_lt (by omega)]
theorem x_shl_bv {a : Int32} {k : Nat} (hk : k < 32) : (a <<< (nI k &&& 31)).toBitVec = a.toBitVec <<< k := by
  rw [Int32.toBitVec_shiftLeft, x_smod32 ⟨k, hk⟩]
  show a.toBitVec <<< (BitVec.ofNat 32 k).toNat = _
  rw [BitVec.toNat_ofNat, Nat.mod_eq_of_lt (by omega)]
theorem nI_bv (n : Nat) : (nI n).toBitVec = BitVec.ofNat 32 n := rfl
theorem nI_and (a b : Nat) : nI a &&& nI b = nI (a &&& b) := by
  apply Int32.toBitVec.inj
  rw [Int32.toBitVec_and, nI_bv, nI_bv, nI_bv, BitVec.ofNat_and]
theorem nI_or (a b : Nat) : nI a ||| nI b = nI (a ||| b) := by
  apply Int32.toBitVec.inj
  rw [Int32.toBitVec_or, nI_bv, nI_bv, nI_bv, BitVec.ofNat_or]
theorem nI_xor (a b : Nat) : nI a ^^^ nI b = nI (a ^^^ b) := by
  apply Int32.toBitVec.inj
  rw [Int32.toBitVec_xor, nI_bv, nI_bv, nI_bv, BitVec.ofNat_xor]
theorem nI_shr {l k : Nat} (hl : l < 2 ^ 31) (hk : k < 32) : nI l >>> (nI k &&& 31) = nI (l >>> k) := by
  apply Int32.toBitVec.inj
  rw [x_shr_bv hk, nI_bv, nI_bv, BitVec.sshiftRight_eq_of_msb_false]
  · apply BitVec.eq_of_toNat_eq
    rw [BitVec.toNat_ushiftRight, BitVec.toNat_ofNat, BitVec.toNat_ofNat, Nat.mod_eq_of_lt (by omega)]
    rw [Nat.mod_eq_of_lt]
    have : l >>> k ≤ l := Nat.shiftRight_le l k
    omega
  · rw [BitVec.msb_eq_false_iff_two_mul_lt, BitVec.toNat_ofNat, Nat.mod_eq_of_lt (by omega)]
    omega
theorem nI_shl {l k : Nat} (hk : k < 32) : nI l <<< (nI k &&& 31) = nI (l <<< k) := by
  apply Int32.toBitVec.inj
  rw [x_shl_bv hk, nI_bv, nI_bv]
  apply BitVec.eq_of_toNat_eq
  rw [BitVec.toNat_shiftLeft, BitVec.toNat_ofNat, BitVec.toNat_ofNat, Nat.shiftLeft_eq, Nat.shiftLeft_eq, Nat.mod_mul_mod]
theorem x_bt_n {l k : Nat} (hl : l < 2 ^ 31) (hk : k < 32) : (nI l >>> (nI k &&& 31)) &&& 1 = nI (l >>> k &&& 1) := by
  rw [nI_shr hl hk]
  exact nI_and _ 1
theorem x_has_n {l k : Nat} (hl : l < 2 ^ 31) (hk : k < 32) : x_has (nI l) (nI k) = l.testBit k := by
  unfold x_has
  rw [x_bt_n hl hk, Nat.testBit]
  have h2 : l >>> k &&& 1 = 0 ∨ l >>> k &&& 1 = 1 := by
    rw [Nat.and_one_is_mod]
    omega
  rw [Nat.and_comm 1]
  rcases h2 with h | h
  · rw [h]; decide
  · rw [h]; decide
/-- without bit k -/
def x_cl0 (l k : Nat) : Nat := l &&& (4294967295 ^^^ 2 ^ k)
theorem x_cl0_n {l k : Nat} (hk : k < 32) : nI l &&& ((1 <<< (nI k &&& 31)) ^^^ (-1)) = nI (x_cl0 l k) := by
  rw [show (-1 : Int32) = nI 4294967295 from rfl, show (1 : Int32) = nI 1 from rfl, nI_shl hk, nI_xor, nI_and, Nat.shiftLeft_eq, Nat.one_mul, Nat.xor_comm]
  rfl
theorem x_cl0_bit {l k j : Nat} (hj : j < 32) : (x_cl0 l k).testBit j = (l.testBit j && !(decide (j = k))) := by
  unfold x_cl0
  rw [Nat.testBit_and, Nat.testBit_xor, Nat.testBit_two_pow]
  have h : Nat.testBit 4294967295 j = true := by
    have h := Nat.testBit_two_pow_sub_one 32 j
    rw [show (2 : Nat) ^ 32 - 1 = 4294967295 from rfl] at h
    rw [h]
    exact decide_eq_true hj
  rw [h]
  by_cases hk : k = j
  · subst hk; simp
  · rw [decide_eq_false hk, decide_eq_false (Ne.symm hk)]; simp
theorem x_cl0_le (l k : Nat) : x_cl0 l k ≤ l := Nat.and_le_left
theorem x_cl0_lt {l k n : Nat} (h : l < 2 ^ n) : x_cl0 l k < 2 ^ n := Nat.lt_of_le_of_lt (x_cl0_le l k) h
theorem x_cl0_and {l m k : Nat} (h : l &&& m = 0) : x_cl0 l k &&& m = 0 := by
  unfold x_cl0
  rw [Nat.and_assoc, Nat.and_comm _ m, ← Nat.and_assoc, h, Nat.zero_and]
theorem x_cl0_and2 {l m k : Nat} (h : l &&& m = 0) : l &&& x_cl0 m k = 0 := by
  rw [Nat.and_comm]
  exact x_cl0_and (by rw [Nat.and_comm]; exact h)
/-! division of numbers -/
theorem nI_div {a b : Nat} (ha : a < 2 ^ 31) (hb : b < 2 ^ 31) : nI a / nI b = nI (a / b) := by
  apply Int32.toInt_inj.mp
  rw [Int32.toInt_div, nI_toInt ha, nI_toInt hb, nI_toInt (Nat.lt_of_le_of_lt (Nat.div_le_self a b) ha)]
  have : ((a : Int).tdiv (b : Int)) = ((a / b : Nat) : Int) := by
    rw [Int.tdiv_eq_ediv_of_nonneg (by omega)]
    rfl
  rw [this, Int.bmod_def]
  have h1 : a / b ≤ a := Nat.div_le_self a b
  generalize a / b = q at h1 ⊢
  split <;> omega
theorem nI_rem {a b : Nat} (ha : a < 2 ^ 31) (hb : b < 2 ^ 31) : nI a - nI a / nI b * nI b = nI (a % b) := by
  rw [nI_div ha hb, nI_mul, nI_sub (Nat.div_mul_le_self a b)]
  congr 1
  have := Nat.div_add_mod a b
  rw [Nat.mul_comm] at this
  omega
theorem nI_neg1 {n : Nat} (h : n < 2 ^ 31) : ¬ nI n = -1000000 := fun z => by
  have h1 := congrArg Int32.toInt z
  rw [nI_toInt h] at h1
  have : (-1000000 : Int32).toInt = -1000000 := by decide
  omega
theorem nI_eq0 {n : Nat} (h : n < 2 ^ 31) : nI n = 0 ↔ n = 0 := nI_eq h (by decide : 0 < 2 ^ 31)
theorem x_lt_and {a b n : Nat} (h : a < 2 ^ n) : a &&& b < 2 ^ n := Nat.lt_of_le_of_lt Nat.and_le_left h
