/-! a state is one number -/
def x_ix (m h sh : Nat) : Nat := m * 1024 + h * 512 + sh
theorem x_ix_or {m h sh : Nat} (hh : h < 2) (hs : sh < 512) : m <<< 10 ||| h <<< 9 ||| sh = x_ix m h sh := by
  have e1 : m <<< 10 ||| h <<< 9 = m <<< 10 + h <<< 9 := by
    rw [← Nat.shiftLeft_add_eq_or_of_lt (i := 10) (by rw [Nat.shiftLeft_eq]; omega)]
  have e2 : m <<< 10 + h <<< 9 = (2 * m + h) <<< 9 := by
    rw [Nat.shiftLeft_eq, Nat.shiftLeft_eq, Nat.shiftLeft_eq]
    omega
  rw [e1, e2, ← Nat.shiftLeft_add_eq_or_of_lt (i := 9) (by omega), Nat.shiftLeft_eq]
  unfold x_ix
  omega
theorem x_ix_h {m h sh : Nat} (hh : h < 2) (hs : sh < 512) : x_ix m h sh >>> 9 &&& 1 = h := by
  rw [Nat.shiftRight_eq_div_pow, Nat.and_one_is_mod]
  unfold x_ix
  omega
theorem x_ix_m {m h sh : Nat} (hh : h < 2) (hs : sh < 512) : x_ix m h sh >>> 10 = m := by
  rw [Nat.shiftRight_eq_div_pow]
  unfold x_ix
  omega
theorem x_ix_s {m h sh : Nat} (hh : h < 2) (hs : sh < 512) : x_ix m h sh &&& 511 = sh := by
  have e := Nat.and_two_pow_sub_one_eq_mod (x_ix m h sh) 9
  have e2 : x_ix m h sh &&& 511 = x_ix m h sh % 2 ^ 9 := e
  rw [e2]
  unfold x_ix
  omega
theorem x_ix_lt {m h sh : Nat} (hm : m < 16) (hh : h < 2) (hs : sh < 512) : x_ix m h sh < 16384 := by unfold x_ix; omega
theorem x_ix_inj {m h sh m' h' sh' : Nat} (hh : h < 2) (hs : sh < 512) (hh' : h' < 2) (hs' : sh' < 512) (e : x_ix m h sh = x_ix m' h' sh') : m = m' ∧ h = h' ∧ sh = sh' := by
  unfold x_ix at e
  omega
theorem x_and_bit {x i : Nat} : x &&& 2 ^ i = 0 ↔ ¬ x.testBit i = true := by
  constructor
  · intro h z
    have e : (x &&& 2 ^ i).testBit i = true := by rw [Nat.testBit_and, z, Nat.testBit_two_pow, decide_eq_true rfl]; rfl
    rw [h, Nat.zero_testBit] at e
    exact absurd e (by decide)
  · intro h
    apply Nat.eq_of_testBit_eq
    intro j
    rw [Nat.zero_testBit, Nat.testBit_and, Nat.testBit_two_pow]
    by_cases hj : i = j
    · subst hj
      rw [show x.testBit i = false by simpa using h, Bool.false_and]
    · rw [decide_eq_false hj, Bool.and_false]
section STATES
variable {xs : List Int32} {d : Nat} {S : x_M}
theorem c_stateOf {m h sh : Nat} (hh : h < 2) (hs : sh < 512) : x_Cr xs (d + 1) 19 [.int (nI m), .int (nI h), .int (nI sh)] S (nI (x_ix m h sh)) := by
  refine x_Ci_of (by rw [ml_19]; rfl) (T_19_0 (x_rt_i ?_))
  rw [show ((10 : Int32) &&& 31) = (nI 10 &&& 31) from rfl, show ((9 : Int32) &&& 31) = (nI 9 &&& 31) from rfl, nI_shl (by omega), nI_shl (by omega), nI_or, nI_or, x_ix_or hh hs]
theorem c_handOf {m h sh : Nat} (hm : m < 16) (hh : h < 2) (hs : sh < 512) : x_Cr xs (d + 1) 20 [.ref 23, .int (nI (x_ix m h sh))] S (nI h) := by
  have hl := x_ix_lt hm hh hs
  refine x_Ci_of (by rw [ml_20]; rfl) (T_20_0 (x_rt_i ?_))
  rw [show ((9 : Int32) &&& 31) = (nI 9 &&& 31) from rfl, x_bt_n (by omega) (by omega), x_ix_h hh hs]
theorem c_holdsO {m h sh i o : Nat} (hm : m < 16) (hh : h < 2) (hs : sh < 512) (hi : i < 4) (ho : S 25 h = nI o) (ho2 : o < 2 ^ 31) : x_Cr xs (d + 1) 21 [.ref 23, .int (nI (x_ix m h sh)), .int (nI h), .int (nI i)] S (x_b (m.testBit i && o.testBit i)) := by
  have hl := x_ix_lt hm hh hs
  refine x_Ci_of (by rw [ml_21]; rfl) (T_21_0 ?_)
  refine ⟨x_ib_n hh (by decide), ?_⟩
  have hb : m &&& o &&& 2 ^ i < 2 ^ 31 := Nat.lt_of_le_of_lt (Nat.le_trans Nat.and_le_left Nat.and_le_left) (by omega)
  rw [nI_clamp (by omega), ho, show ((10 : Int32) &&& 31) = (nI 10 &&& 31) from rfl, nI_shr (by omega) (by omega), x_ix_m hh hs, nI_and, x_one_shl (by omega), nI_and]
  by_cases h : (m &&& o).testBit i = true
  · rw [if_neg (fun z => x_and_bit.mp ((nI_eq0 hb).mp z) h)]
    exact x_rt_i (x_b_t (by rw [← Nat.testBit_and]; exact h))
  · rw [if_pos ((nI_eq0 hb).mpr (x_and_bit.mpr h))]
    exact x_rt_i (x_b_f (by rw [← Nat.testBit_and]; exact h))
theorem c_stateAfter {m h sh i o s : Nat} (hm : m < 16) (hh : h < 2) (hs : sh < 512) (hi : i < 4) (ho : S 25 (1 - h) = nI o) (ho2 : o < 2 ^ 31) (hs2 : s < 512) : x_Cr xs (d + 2) 22 [.ref 23, .int (nI (x_ix m h sh)), .int (nI i), .int (nI s)] S (nI (x_ix (x_cl0 m i) (if x_cl0 m i &&& o = 0 then h else 1 - h) (if s = 0 then 511 else s))) := by
  have hl := x_ix_lt hm hh hs
  refine x_Ci_of (by rw [ml_22]; rfl) (T_22_0 (x_rd (c_handOf hm hh hs) ?_))
  have hle := x_cl0_le m i
  have hb : x_cl0 m i &&& o < 2 ^ 31 := Nat.lt_of_le_of_lt Nat.and_le_left (by omega)
  rw [show (1 : Int32) - nI h = nI (1 - h) from nI_sub (a := 1) (by omega), nI_clamp (by omega), ho, show ((10 : Int32) &&& 31) = (nI 10 &&& 31) from rfl, nI_shr (by omega) (by omega), x_ix_m hh hs, x_cl0_n (by omega), nI_and]
  refine ⟨x_ib_n (by omega) (by decide), ?_⟩
  have k1 : nI (x_cl0 m i &&& o) = 0 ↔ x_cl0 m i &&& o = 0 := nI_eq0 hb
  have k2 : nI s = 0 ↔ s = 0 := nI_eq0 (by omega)
  by_cases z1 : x_cl0 m i &&& o = 0
  · rw [if_pos (k1.mpr z1), if_pos z1]
    by_cases z2 : s = 0
    · rw [if_pos (k2.mpr z2), if_pos z2]
      exact x_rd (c_stateOf (sh := 511) hh (by omega)) (x_rt_i rfl)
    · rw [if_neg (fun z => z2 (k2.mp z)), if_neg z2]
      exact x_rd (c_stateOf hh hs2) (x_rt_i rfl)
  · rw [if_neg (fun z => z1 (k1.mp z)), if_neg z1]
    by_cases z2 : s = 0
    · rw [if_pos (k2.mpr z2), if_pos z2]
      exact x_rd (c_stateOf (h := 1 - h) (sh := 511) (by omega) (by omega)) (x_rt_i rfl)
    · rw [if_neg (fun z => z2 (k2.mp z)), if_neg z2]
      exact x_rd (c_stateOf (h := 1 - h) (by omega) hs2) (x_rt_i rfl)
end STATES
/-! the cards of a state -/
def x_ms (c : Nat → Nat) (m : Nat) : Nat → Nat
  | 0 => 0
  | i + 1 => x_ms c m i ||| (if m.testBit i = true then 2 ^ c i else 0)
theorem x_ms_bit {c : Nat → Nat} {m q : Nat} : ∀ k, (x_ms c m k).testBit q = true ↔ ∃ i, i < k ∧ m.testBit i = true ∧ c i = q := by
  intro k
  induction k with
  | zero =>
    show (0 : Nat).testBit q = true ↔ _
    rw [Nat.zero_testBit]
    exact ⟨fun z => absurd z (by decide), fun ⟨i, hi, _⟩ => by omega⟩
  | succ k ih =>
    show (x_ms c m k ||| (if m.testBit k = true then 2 ^ c k else 0)).testBit q = true ↔ _
    rw [Nat.testBit_or, Bool.or_eq_true, ih]
    constructor
    · rintro (⟨i, h1, h2, h3⟩ | h)
      · exact ⟨i, by omega, h2, h3⟩
      · by_cases hk : m.testBit k = true
        · rw [if_pos hk, Nat.testBit_two_pow, decide_eq_true_eq] at h
          exact ⟨k, by omega, hk, h⟩
        · rw [if_neg hk, Nat.zero_testBit] at h
          exact absurd h (by decide)
    · rintro ⟨i, h1, h2, h3⟩
      by_cases hik : i = k
      · subst hik
        refine Or.inr ?_
        rw [if_pos h2, Nat.testBit_two_pow, h3, decide_eq_true rfl]
      · exact Or.inl ⟨i, by omega, h2, h3⟩
def x_BmS (l0 l1 size : Nat) (c : Nat → Nat) (m h sh : Nat) : x_Bs := (sh, h, l0 &&& x_ms c m size, l1 &&& x_ms c m size)
theorem x_ms_c {c : Nat → Nat} {m size i : Nat} (hinj : ∀ i j, i < size → j < size → c i = c j → i = j) (hi : i < size) : (x_ms c m size).testBit (c i) = m.testBit i := by
  by_cases h : m.testBit i = true
  · rw [h]
    exact (x_ms_bit size).mpr ⟨i, hi, h, rfl⟩
  · have h2 : ¬ (x_ms c m size).testBit (c i) = true := fun z => by
      obtain ⟨j, h1, h2, h3⟩ := (x_ms_bit size).mp z
      rw [hinj j i h1 hi h3] at h2
      exact h h2
    rw [show m.testBit i = false by simpa using h]
    simpa using h2
theorem x_OB_inj {l0 l1 n size o0 o1 : Nat} {c : Nat → Nat} (H : x_OB l0 l1 n size c o0 o1) : ∀ i j, i < size → j < size → c i = c j → i = j := by
  intro i j hi hj e
  rcases Nat.lt_trichotomy i j with h | h | h
  · have := H.2.1 i j h hj; omega
  · exact h
  · have := H.2.1 j i h hi; omega
/-- without one card -/
theorem x_ms_cl {c : Nat → Nat} {m size i l : Nat} (hinj : ∀ i j, i < size → j < size → c i = c j → i = j) (hi : i < size) (hsz : size ≤ 4) (hl : l < 2 ^ 14) : l &&& x_ms c (x_cl0 m i) size = x_cl0 (l &&& x_ms c m size) (c i) := by
  apply Nat.eq_of_testBit_eq
  intro q
  by_cases hq : q < 14
  · rw [x_cl0_bit (by omega), Nat.testBit_and, Nat.testBit_and]
    have e : (x_ms c (x_cl0 m i) size).testBit q = ((x_ms c m size).testBit q && !decide (q = c i)) := by
      rw [Bool.eq_iff_iff, Bool.and_eq_true, x_ms_bit, x_ms_bit]
      constructor
      · rintro ⟨j, h1, h2, h3⟩
        rw [x_cl0_bit (by omega), Bool.and_eq_true] at h2
        refine ⟨⟨j, h1, h2.1, h3⟩, ?_⟩
        have hji : ¬ j = i := by simpa using h2.2
        simp only [Bool.not_eq_true', decide_eq_false_iff_not]
        intro z
        exact hji (hinj j i h1 hi (h3.trans z))
      · rintro ⟨⟨j, h1, h2, h3⟩, h4⟩
        simp only [Bool.not_eq_true', decide_eq_false_iff_not] at h4
        refine ⟨j, h1, ?_, h3⟩
        rw [x_cl0_bit (by omega), h2, Bool.true_and, Bool.not_eq_true', decide_eq_false_iff_not]
        intro z
        exact h4 (by rw [← h3, z])
    rw [e, Bool.and_assoc]
  · have h1 : (l &&& x_ms c (x_cl0 m i) size) < 2 ^ 14 := Nat.lt_of_le_of_lt Nat.and_le_left hl
    have h2 : x_cl0 (l &&& x_ms c m size) (c i) < 2 ^ 14 := x_cl0_lt (Nat.lt_of_le_of_lt Nat.and_le_left hl)
    rw [Nat.testBit_lt_two_pow (Nat.lt_of_lt_of_le h1 (Nat.pow_le_pow_right (by omega) (by omega))), Nat.testBit_lt_two_pow (Nat.lt_of_lt_of_le h2 (Nat.pow_le_pow_right (by omega) (by omega)))]
theorem x_cl0_no {l k n : Nat} (hl : l < 2 ^ n) (hn : n ≤ 14) (h : l.testBit k = false) : x_cl0 l k = l := by
  apply Nat.eq_of_testBit_eq
  intro q
  by_cases hq : q < 14
  · rw [x_cl0_bit (by omega)]
    by_cases e : q = k
    · rw [e, h]
      rfl
    · rw [decide_eq_false e]
      simp
  · have h2 : x_cl0 l k < 2 ^ n := x_cl0_lt hl
    have h3 : 2 ^ n ≤ 2 ^ q := Nat.pow_le_pow_right (by omega) (by omega)
    rw [Nat.testBit_lt_two_pow (Nat.lt_of_lt_of_le hl h3), Nat.testBit_lt_two_pow (Nat.lt_of_lt_of_le h2 h3)]
/-- has the other hand a card? -/
theorem x_ms_z {c : Nat → Nat} {m size l o : Nat} (hm : m < 2 ^ size) (ho : ∀ i, i < size → o.testBit i = l.testBit (c i)) : m &&& o = 0 ↔ l &&& x_ms c m size = 0 := by
  constructor
  · intro h
    apply Nat.eq_of_testBit_eq
    intro q
    rw [Nat.zero_testBit, Nat.testBit_and]
    cases hq : l.testBit q with
    | false => rfl
    | true =>
      rw [Bool.true_and]
      cases hq2 : (x_ms c m size).testBit q with
      | false => rfl
      | true =>
        exfalso
        obtain ⟨i, h1, h2, h3⟩ := (x_ms_bit size).mp hq2
        have e : (m &&& o).testBit i = true := by rw [Nat.testBit_and, h2, ho i h1, h3, hq]; rfl
        rw [h, Nat.zero_testBit] at e
        exact absurd e (by decide)
  · intro h
    apply Nat.eq_of_testBit_eq
    intro i
    rw [Nat.zero_testBit, Nat.testBit_and]
    cases hi : m.testBit i with
    | false => rfl
    | true =>
      rw [Bool.true_and]
      have his := x_bit_lt hm hi
      cases hi2 : o.testBit i with
      | false => rfl
      | true =>
        exfalso
        have e : (l &&& x_ms c m size).testBit (c i) = true := by
          rw [Nat.testBit_and, ← ho i his, hi2, Bool.true_and]
          exact (x_ms_bit size).mpr ⟨i, his, hi, rfl⟩
        rw [h, Nat.zero_testBit] at e
        exact absurd e (by decide)
