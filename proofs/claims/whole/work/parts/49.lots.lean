/-! LOTS -/
theorem lN_toInt6 {n : Nat} (h : n < 2 ^ 63) : (lN n).toInt = (n : Int) := Int64.toInt_ofNat_of_lt h
theorem lN_div {a b : Nat} (ha : a < 2 ^ 62) (hb : b < 2 ^ 62) : lN a / lN b = lN (a / b) := by
  apply Int64.toInt_inj.mp
  have h1 : a / b ≤ a := Nat.div_le_self a b
  rw [Int64.toInt_div, lN_toInt6 (by omega), lN_toInt6 (by omega), lN_toInt6 (by omega)]
  have : ((a : Int).tdiv (b : Int)) = ((a / b : Nat) : Int) := by
    rw [Int.tdiv_eq_ediv_of_nonneg (by omega)]
    rfl
  rw [this, Int.bmod_def]
  generalize a / b = q at h1 ⊢
  split <;> omega
theorem lN_rem {a b : Nat} (ha : a < 2 ^ 62) (hb : b < 2 ^ 62) : lN a - lN a / lN b * lN b = lN (a % b) := by
  rw [lN_div ha hb, lN_mul, lN_sub (Nat.div_mul_le_self a b)]
  congr 1
  have := Nat.div_add_mod a b
  rw [Nat.mul_comm] at this
  omega
theorem x_bit01 (l k : Nat) : l >>> k &&& 1 = if l.testBit k = true then 1 else 0 := by
  have h : (l >>> k &&& 1) = 0 ∨ (l >>> k &&& 1) = 1 := by
    rw [Nat.and_one_is_mod]
    omega
  unfold Nat.testBit
  rw [Nat.and_comm 1]
  rcases h with h | h <;> rw [h] <;> rfl
theorem x_pop_s (l k : Nat) : x_pop l (k + 1) = x_pop l k + (if l.testBit k = true then 1 else 0) := by
  show x_pop l k + (l >>> k &&& 1) = _
  rw [x_bit01]
theorem x_pop_mono {l j : Nat} : ∀ k, j ≤ k → x_pop l j ≤ x_pop l k := by
  intro k
  induction k with
  | zero => intro h; rw [show j = 0 by omega]; exact Nat.le_refl _
  | succ k ih =>
    intro h
    by_cases hj : j = k + 1
    · rw [hj]; exact Nat.le_refl _
    · have := ih (by omega)
      rw [x_pop_s]
      omega
theorem x_nth_ex {l k : Nat} : ∀ m, k < x_pop l m → ∃ c, c < m ∧ l.testBit c = true ∧ x_pop l c = k := by
  intro m
  induction m with
  | zero => intro h; exact absurd h (Nat.not_lt_zero k)
  | succ m ih =>
    intro h
    by_cases h1 : k < x_pop l m
    · obtain ⟨c, h2, h3⟩ := ih h1
      exact ⟨c, by omega, h3⟩
    · rw [x_pop_s] at h
      by_cases h2 : l.testBit m = true
      · rw [if_pos h2] at h
        exact ⟨m, by omega, h2, by omega⟩
      · rw [if_neg h2] at h
        omega
/-- the bit ahead of which there are k others -/
def x_nth (l k : Nat) : Nat := ((List.range 14).find? (fun c => l.testBit c && decide (x_pop l c = k))).getD 0
theorem x_nth_s {l k : Nat} (h : k < x_pop l 14) : x_nth l k < 14 ∧ l.testBit (x_nth l k) = true ∧ x_pop l (x_nth l k) = k := by
  obtain ⟨c, h1, h2, h3⟩ := x_nth_ex 14 h
  unfold x_nth
  cases hf : (List.range 14).find? (fun c => l.testBit c && decide (x_pop l c = k)) with
  | none =>
    have h4 := List.find?_eq_none.mp hf c (List.mem_range.mpr h1)
    exact absurd (by rw [h2, h3]; simp) h4
  | some e =>
    have h4 := List.find?_some hf
    have h5 := List.mem_of_find?_eq_some hf
    simp only [Bool.and_eq_true, decide_eq_true_eq] at h4
    exact ⟨List.mem_range.mp h5, h4.1, h4.2⟩
theorem x_pop_0 {l : Nat} (hl : l < 2 ^ 14) : x_pop l 14 = 0 ↔ l = 0 := by
  constructor
  · intro h
    apply Nat.eq_of_testBit_eq
    intro i
    rw [Nat.zero_testBit]
    by_cases hi : i < 14
    · have h1 : x_pop l (i + 1) ≤ 0 := by rw [← h]; exact x_pop_mono 14 (by omega)
      rw [x_pop_s] at h1
      by_cases h2 : l.testBit i = true
      · rw [if_pos h2] at h1; omega
      · simpa using h2
    · exact Nat.testBit_lt_two_pow (Nat.lt_of_lt_of_le hl (Nat.pow_le_pow_right (by omega) (by omega)))
  · rintro rfl
    decide
theorem x_bit_lt {l n c : Nat} (hl : l < 2 ^ n) (h : l.testBit c = true) : c < n := by
  apply Decidable.byContradiction
  intro hc
  rw [Nat.testBit_lt_two_pow (Nat.lt_of_lt_of_le hl (Nat.pow_le_pow_right (by omega) (by omega)))] at h
  exact absurd h (by decide)
/-- the number drawn; the play that it tells -/
def x_rnd (m : Nat) : Nat := m * 16807 % 2147483647
def x_lot (m : Nat) (A : x_Ga) : Nat := 8 * x_nth (x_hd A) (x_rnd m % (8 * x_pop (x_hd A) 14) / 8) + x_rnd m % (8 * x_pop (x_hd A) 14) % 8
def x_lots (L T : Nat → Int32) : Nat → Nat → x_Ga → x_Ga × Nat
  | 0, _, A => (A, 0)
  | f + 1, m, A => if x_hd A = 0 then (A, 0) else ((x_lots L T f (x_rnd m) (x_stp L T (x_lot m A) A)).1, (x_lots L T f (x_rnd m) (x_stp L T (x_lot m A) A)).2 + 1)
theorem x_rnd_lt (m : Nat) : x_rnd m < 2147483647 := Nat.mod_lt _ (by decide)
theorem x_lot_s {m n : Nat} {A : x_Ga} (hw : x_AW n A) (hn : n ≤ 14) (h0 : ¬ x_hd A = 0) : x_rnd m % (8 * x_pop (x_hd A) 14) < 8 * x_pop (x_hd A) 14 ∧ x_nth (x_hd A) (x_rnd m % (8 * x_pop (x_hd A) 14) / 8) < n ∧ (x_hd A).testBit (x_nth (x_hd A) (x_rnd m % (8 * x_pop (x_hd A) 14) / 8)) = true ∧ x_pop (x_hd A) (x_nth (x_hd A) (x_rnd m % (8 * x_pop (x_hd A) 14) / 8)) = x_rnd m % (8 * x_pop (x_hd A) 14) / 8 := by
  have h2 := x_2n hn
  have h3 := x_hd_lt hw
  have hp : ¬ x_pop (x_hd A) 14 = 0 := fun z => h0 ((x_pop_0 (by omega)).mp z)
  have hlt : x_rnd m % (8 * x_pop (x_hd A) 14) < 8 * x_pop (x_hd A) 14 := Nat.mod_lt _ (by omega)
  have hs := x_nth_s (l := x_hd A) (k := x_rnd m % (8 * x_pop (x_hd A) 14) / 8) (by omega)
  exact ⟨hlt, x_bit_lt h3 hs.2.1, hs.2.1, hs.2.2⟩
section LOTS
variable {xs : List Int32} {d : Nat} {S : x_M}
theorem c_bitAt {l k c : Nat} (hl : l < 2 ^ 14) (hc : c < 14) (h1 : l.testBit c = true) (h2 : x_pop l c = k) : x_Cr xs (d + 1) 69 [.int (nI l), .int (nI k)] S (nI c) := by
  refine x_Ci_of (by rw [ml_69]; rfl) (T_69_0 ?_)
  have hk : k < 14 := by have := x_pop_le (l := l) c; omega
  have loop : ∀ i b, b + i = c → x_E xs (d + 1) 69 4 [.int (nI l), .int (nI k), .int (nI (x_pop l b)), .int (nI b)] [] S (fun r S' => ∃ v : Int32, r = some (.int v) ∧ v = nI c ∧ S' = S) := by
    intro i
    induction i with
    | zero =>
      intro b hb
      have hbc : b = c := by omega
      subst hbc
      refine T_69_4 ?_
      rw [if_neg (show ¬ (14 : Int32) ≤ nI b from nI_ge (b := 14) (by omega) (by decide)), x_bt_n (by omega) (by omega), x_bit01, if_pos h1, if_neg (by decide), h2, if_pos rfl]
      exact ⟨_, rfl, rfl, rfl⟩
    | succ i ih =>
      intro b hb
      refine T_69_4 ?_
      have hi := ih (b + 1) (by omega)
      rw [x_pop_s] at hi
      rw [if_neg (show ¬ (14 : Int32) ≤ nI b from nI_ge (b := 14) (by omega) (by decide)), x_bt_n (by omega) (by omega), x_bit01, ← nI_succ]
      by_cases hbt : l.testBit b = true
      · rw [if_pos hbt] at hi ⊢
        have hlt : x_pop l b < k := by
          have h3 : x_pop l (b + 1) ≤ x_pop l c := x_pop_mono c (by omega)
          rw [x_pop_s, if_pos hbt] at h3
          omega
        rw [if_neg (by decide), if_neg (by rw [nI_eq (by omega) (by omega)]; omega), ← nI_succ]
        exact hi
      · rw [if_neg hbt] at hi ⊢
        rw [if_pos (show nI 0 = 0 from rfl)]
        exact hi
  exact loop c 0 (by omega)
theorem x_8p : ∀ p : Fin 15, Int32.toInt64 (8 * nI p.val) = lN (8 * p.val) := by decide
theorem x_8q : ∀ p : Fin 15, 8 * Int32.toInt64 (nI p.val) = lN (8 * p.val) := by decide
theorem x_rnd_l {m : Nat} (hm : m < 2 ^ 31) : (lN m * 16807) - (lN m * 16807) / 2147483647 * 2147483647 = lN (x_rnd m) := by
  rw [show lN m * 16807 = lN (m * 16807) from lN_mul m 16807]
  exact lN_rem (b := 2147483647) (by omega) (by decide)
theorem c_layByLot {n m : Nat} {A : x_Ga} (hn : S 12 5 = nI n) (hn4 : n ≤ 14) (hc : x_GC S 12 A) (hw : x_AW n A) (h0 : ¬ x_hd A = 0) : x_Cv xs (d + 4) 68 [.ref 12, .long (lN (x_rnd m))] S (fun S' => x_GC S' 12 (x_stp (S 14) (S 13) (x_lot m A) A) ∧ ∀ p k, ¬ (p = 12 ∧ 6 ≤ k ∧ k ≤ 9) → p ≠ 15 → p ≠ 16 → S' p k = S p k) := by
  have h2 := x_2n hn4
  have h3 := x_hd_lt hw
  have hr := x_rnd_lt m
  obtain ⟨s1, s2, s3, s4⟩ := x_lot_s (m := m) hw hn4 h0
  have hp : ¬ x_pop (x_hd A) 14 = 0 := fun z => h0 ((x_pop_0 (by omega)).mp z)
  have hp14 := x_pop_le (l := x_hd A) 14
  refine x_Cv_of (by rw [ml_68]; rfl) (T_68_0 (by decide) (x_rd (c_playable (by decide) hc hw) (x_rd (c_bitCount (by omega)) ?_)))
  rw [if_neg (by rw [nI_eq0 (by omega)]; exact hp), x_8p ⟨_, Nat.lt_succ_of_le hp14⟩]
  have hne : ¬ lN (8 * x_pop (x_hd A) 14) = 0 := fun z => by
    have := (lN_eq (a := 8 * x_pop (x_hd A) 14) (b := 0) (by omega) (by omega)).mp z
    omega
  refine ⟨hne, ?_⟩
  intro x3 hx3
  rw [lN_rem (by omega) (by omega), lN_i] at hx3
  subst hx3
  refine x_rd (c_playable (by decide) hc hw) ?_
  rw [show nI (x_rnd m % (8 * x_pop (x_hd A) 14)) - nI (x_rnd m % (8 * x_pop (x_hd A) 14)) / 8 * 8 = nI (x_rnd m % (8 * x_pop (x_hd A) 14) % 8) from nI_rem (b := 8) (by omega) (by omega), show nI (x_rnd m % (8 * x_pop (x_hd A) 14)) / 8 = nI (x_rnd m % (8 * x_pop (x_hd A) 14) / 8) from nI_div (b := 8) (by omega) (by omega)]
  refine x_rd (c_bitAt (by omega) (by omega) s3 s4) ?_
  refine ⟨_, c_lay (by decide) hn hn4 s2 (Nat.mod_lt _ (by omega)) hc hw s3, ?_⟩
  rintro v S' ⟨u1, u2, u3⟩
  exact ⟨rfl, u2, u3⟩
theorem c_lotsC {n q : Nat} (a2 : Int32) (hn4 : n ≤ 14) (hq : q ≤ 14) (hLb : ∀ v, v < 8 * n → ∃ m : Nat, m < 512 ∧ S 14 v = nI m) : ∀ f j m (U : x_M) (A : x_Ga), j + f = q → m < 2 ^ 31 → U 12 5 = nI n → x_GC U 12 A → x_AW n A → (∀ p k, ¬ (p = 12 ∧ 6 ≤ k ∧ k ≤ 9) → p ≠ 15 → p ≠ 16 → U p k = S p k) → x_E xs (d + 5) 67 44 [.ref 8, .int (nI q), .int a2, .long (lN m), .null, .int (nI j)] [] U (fun r S' => ∃ v : Int32, r = some (.int v) ∧ v = nI (j + (x_lots (S 14) (S 13) f m A).2) ∧ x_GC S' 12 (x_lots (S 14) (S 13) f m A).1 ∧ ∀ p k, ¬ (p = 12 ∧ 6 ≤ k ∧ k ≤ 9) → p ≠ 15 → p ≠ 16 → S' p k = S p k) := by
  intro f
  induction f with
  | zero =>
    intro j m U A hj hm hn hc hw hag
    have hjq : j = q := by omega
    subst hjq
    refine T_67_44 ?_
    rw [if_pos (Int32.le_refl _)]
    exact ⟨_, rfl, rfl, hc, hag⟩
  | succ f ih =>
    intro j m U A hj hm hn hc hw hag
    have h2 := x_2n hn4
    have h3 := x_hd_lt hw
    refine T_67_44 ?_
    rw [if_neg (nI_ge (by omega) (by omega))]
    refine x_rd (c_playable (by decide) hc hw) ?_
    have hx : x_lots (S 14) (S 13) (f + 1) m A = if x_hd A = 0 then (A, 0) else ((x_lots (S 14) (S 13) f (x_rnd m) (x_stp (S 14) (S 13) (x_lot m A) A)).1, (x_lots (S 14) (S 13) f (x_rnd m) (x_stp (S 14) (S 13) (x_lot m A) A)).2 + 1) := rfl
    rw [hx]
    split
    next h =>
      rw [nI_eq0 (by omega)] at h
      rw [if_pos h]
      exact ⟨_, rfl, rfl, hc, hag⟩
    next h =>
      rw [nI_eq0 (by omega)] at h
      rw [if_neg h, x_rnd_l hm]
      refine ⟨_, c_layByLot hn hn4 hc hw h, ?_⟩
      rintro S1 ⟨u2, u3⟩
      obtain ⟨s1, s2, s3, s4⟩ := x_lot_s (m := m) hw hn4 h
      have hr := x_rnd_lt m
      have e14 : U 14 = S 14 := funext (fun k => hag 14 k (by omega) (by omega) (by omega))
      have e13 : U 13 = S 13 := funext (fun k => hag 13 k (by omega) (by omega) (by omega))
      rw [e14, e13] at u2
      have hi := ih (j + 1) (x_rnd m) S1 (x_stp (S 14) (S 13) (x_lot m A) A) (by omega) (by omega) (by rw [u3 12 5 (by omega) (by omega) (by omega)]; exact hn) u2 (x_AW_stp hw (hLb _ (by unfold x_lot; omega)) (by unfold x_lot; omega)) (fun p k z1 z2 z3 => by rw [u3 p k z1 z2 z3, hag p k z1 z2 z3])
      rw [nI_succ] at hi
      refine x_E_weak hi ?_
      rintro r S' ⟨v, y1, y2, y3, y4⟩
      exact ⟨v, y1, by rw [y2]; congr 1; omega, y3, y4⟩
theorem c_lotsM {n q : Nat} (a2 : Int32) {L T : Nat → Int32} (hn4 : n ≤ 14) (hq : q ≤ 14) (hLb : ∀ v, v < 8 * n → S 66 v = L v ∧ ∃ m : Nat, m < 512 ∧ L v = nI m) (hT : ∀ P, x_wsum (fun k => S 57 (16 + k)) P 9 = x_wsum T P 9) : ∀ f j m (U : x_M) (A : x_Ga), j + f = q → m < 2 ^ 31 → x_GM U 0 A → x_AW n A → (∀ p k, ¬ (p = 57 ∧ 25 ≤ k ∧ k ≤ 32) → U p k = S p k) → ∀ a6 a7 a8 a9 : Value, x_E xs (d + 4) 135 45 [.ref 56, .int (nI q), .int a2, .long (lN m), .null, .int (nI j), a6, a7, a8, a9] [] U (fun r S' => ∃ v : Int32, r = some (.int v) ∧ v = nI (j + (x_lots L T f m A).2) ∧ x_GM S' 0 (x_lots L T f m A).1 ∧ ∀ p k, ¬ (p = 57 ∧ 25 ≤ k ∧ k ≤ 32) → S' p k = S p k) := by
  intro f
  induction f with
  | zero =>
    intro j m U A hj hm hc hw hag a6 a7 a8 a9
    have hjq : j = q := by omega
    subst hjq
    refine T_135_45 ?_
    rw [if_pos (Int32.le_refl _)]
    exact ⟨_, rfl, rfl, hc, hag⟩
  | succ f ih =>
    intro j m U A hj hm hc hw hag a6 a7 a8 a9
    have h2 := x_2n hn4
    have h3 := x_hd_lt hw
    have hh := hw.2.2.2.2.1
    refine T_135_45 ?_
    have e27 : U 57 27 = nI (x_Ah A) := hc.2.2.1
    have ehd : U 57 (30 + x_Ah A) = nI (x_hd A) := by
      unfold x_hd
      rcases (by omega : x_Ah A = 0 ∨ x_Ah A = 1) with e | e
      · rw [e]; exact hc.2.2.2.2.2.1
      · rw [e]; exact hc.2.2.2.2.2.2.1
    rw [if_neg (nI_ge (by omega) (by omega)), e27, show (30 : Int32) + nI (x_Ah A) = nI (30 + x_Ah A) from nI_add 30 _, nI_clamp (n := 30 + x_Ah A) (by omega), ehd]
    refine ⟨x_ib_n (by omega) (by decide), ?_⟩
    have hx : x_lots L T (f + 1) m A = if x_hd A = 0 then (A, 0) else ((x_lots L T f (x_rnd m) (x_stp L T (x_lot m A) A)).1, (x_lots L T f (x_rnd m) (x_stp L T (x_lot m A) A)).2 + 1) := rfl
    rw [hx]
    split
    next h =>
      rw [nI_eq0 (by omega)] at h
      rw [if_pos h]
      exact ⟨_, rfl, rfl, hc, hag⟩
    next h =>
      rw [nI_eq0 (by omega)] at h
      rw [if_neg h, x_rnd_l hm]
      refine ⟨x_ib_n (by omega) (by decide), x_rd (c_bits (by omega)) ?_⟩
      have hr := x_rnd_lt m
      have hp : ¬ x_pop (x_hd A) 14 = 0 := fun z => h ((x_pop_0 (by omega)).mp z)
      have hp14 := x_pop_le (l := x_hd A) 14
      rw [x_8q ⟨_, Nat.lt_succ_of_le hp14⟩]
      have hne : ¬ lN (8 * x_pop (x_hd A) 14) = 0 := fun z => by
        have := (lN_eq (a := 8 * x_pop (x_hd A) 14) (b := 0) (by omega) (by omega)).mp z
        omega
      refine ⟨hne, ?_⟩
      intro x2 hx2
      rw [lN_rem (by omega) (by omega), lN_i] at hx2
      obtain ⟨s1, s2, s3, s4⟩ := x_lot_s (m := m) hw hn4 h
      rw [hx2, show nI (x_rnd m % (8 * x_pop (x_hd A) 14)) / 8 = nI (x_rnd m % (8 * x_pop (x_hd A) 14) / 8) from nI_div (b := 8) (by omega) (by omega)]
      have inner : ∀ i c, c + i = x_nth (x_hd A) (x_rnd m % (8 * x_pop (x_hd A) 14) / 8) → x_E xs (d + 4) 135 121 [.ref 56, .int (nI q), .int a2, .long (lN (x_rnd m)), .null, .int (nI j), .int (nI (x_hd A)), .int (nI (x_rnd m % (8 * x_pop (x_hd A) 14))), .int (nI c), .int (nI (x_rnd m % (8 * x_pop (x_hd A) 14) / 8 - x_pop (x_hd A) c))] [] U (fun r S' => ∃ v : Int32, r = some (.int v) ∧ v = nI (j + ((x_lots L T f (x_rnd m) (x_stp L T (x_lot m A) A)).2 + 1)) ∧ x_GM S' 0 (x_lots L T f (x_rnd m) (x_stp L T (x_lot m A) A)).1 ∧ ∀ p k, ¬ (p = 57 ∧ 25 ≤ k ∧ k ≤ 32) → S' p k = S p k) := by
        intro i
        induction i with
        | zero =>
          intro c hcc
          have hce : c = x_nth (x_hd A) (x_rnd m % (8 * x_pop (x_hd A) 14) / 8) := by omega
          refine T_135_121 (x_rd c_has ?_)
          rw [x_has_n (by omega) (by omega), hce, s3, s4, Nat.sub_self, if_neg (by decide), if_pos (by decide), show nI (x_rnd m % (8 * x_pop (x_hd A) 14)) - nI (x_rnd m % (8 * x_pop (x_hd A) 14)) / 8 * 8 = nI (x_rnd m % (8 * x_pop (x_hd A) 14) % 8) from nI_rem (b := 8) (by omega) (by omega), x_8cw]
          refine ⟨_, c_playOf (n := n) hn4 (by omega) hc hw, ?_⟩
          rintro v S1 ⟨u1, u2, u3⟩
          have e1 : U 66 (x_lot m A) = L (x_lot m A) := by rw [hag 66 _ (by omega)]; exact (hLb _ (by unfold x_lot; omega)).1
          have e2 : ∀ P, x_wsum (fun k => U 57 (16 + k)) P 9 = x_wsum T P 9 := fun P => by
            rw [← hT P]
            exact x_wsum_c 9 (fun j hj => hag 57 _ (by omega))
          have u2' : x_GM S1 0 (x_stp L T (x_lot m A) A) := by rw [← x_stp_c e1 e2]; exact u2
          have hi := ih (j + 1) (x_rnd m) S1 (x_stp L T (x_lot m A) A) (by omega) (by omega) u2' (x_AW_stp hw (hLb _ (by unfold x_lot; omega)).2 (by unfold x_lot; omega)) (fun p k z1 => by rw [u3 p k z1, hag p k z1])
          rw [nI_succ] at hi
          refine x_E_weak (hi _ _ _ _) ?_
          rintro r S' ⟨v, y1, y2, y3, y4⟩
          exact ⟨v, y1, by rw [y2]; congr 1; omega, y3, y4⟩
        | succ i ih2 =>
          intro c hcc
          have hi := ih2 (c + 1) (by omega)
          have hm2 : x_pop (x_hd A) (c + 1) ≤ x_rnd m % (8 * x_pop (x_hd A) 14) / 8 := by rw [← s4]; exact x_pop_mono _ (by omega)
          rw [x_pop_s (x_hd A) c] at hi hm2
          refine T_135_121 (x_rd c_has ?_)
          rw [x_has_n (by omega) (by omega), ← nI_succ]
          by_cases hb : (x_hd A).testBit c = true
          · rw [if_pos hb] at hi hm2
            rw [if_neg (x_b_ne hb), if_neg (show ¬ nI (x_rnd m % (8 * x_pop (x_hd A) 14) / 8 - x_pop (x_hd A) c) ≤ 0 from nI_nle (by omega) (by omega))]
            refine x_rd c_has ?_
            rw [x_has_n (by omega) (by omega), if_neg (x_b_ne hb), show nI (x_rnd m % (8 * x_pop (x_hd A) 14) / 8 - x_pop (x_hd A) c) - 1 = nI (x_rnd m % (8 * x_pop (x_hd A) 14) / 8 - x_pop (x_hd A) c - 1) from nI_sub (b := 1) (by omega), Nat.sub_sub]
            exact hi
          · rw [if_neg hb] at hi hm2
            rw [if_pos (x_b_0.mpr hb)]
            refine x_rd c_has ?_
            rw [x_has_n (by omega) (by omega), if_pos (x_b_0.mpr hb), Int32.sub_zero]
            exact hi
      have h0 := inner _ 0 (Nat.zero_add _)
      rw [show x_pop (x_hd A) 0 = 0 from rfl, Nat.sub_zero] at h0
      exact h0
theorem x_lots_w {L T : Nat → Int32} {n : Nat} (hn4 : n ≤ 14) (hL : ∀ v, v < 8 * n → ∃ m : Nat, m < 512 ∧ L v = nI m) : ∀ f m (A : x_Ga), x_AW n A → x_AW n (x_lots L T f m A).1 := by
  intro f
  induction f with
  | zero => intro m A hw; exact hw
  | succ f ih =>
    intro m A hw
    show x_AW n (if x_hd A = 0 then (A, 0) else ((x_lots L T f (x_rnd m) (x_stp L T (x_lot m A) A)).1, (x_lots L T f (x_rnd m) (x_stp L T (x_lot m A) A)).2 + 1)).1
    by_cases h : x_hd A = 0
    · rw [if_pos h]; exact hw
    · rw [if_neg h]
      obtain ⟨s1, s2, s3, s4⟩ := x_lot_s (m := m) hw hn4 h
      exact ih _ _ (x_AW_stp hw (hL _ (by unfold x_lot; omega)) (by unfold x_lot; omega))
theorem x_lots_c {L M T U : Nat → Int32} {n : Nat} (hn4 : n ≤ 14) (hL : ∀ v, v < 8 * n → L v = M v ∧ ∃ m : Nat, m < 512 ∧ L v = nI m) (hT : ∀ P, x_wsum T P 9 = x_wsum U P 9) : ∀ f m (A : x_Ga), x_AW n A → x_lots L T f m A = x_lots M U f m A := by
  intro f
  induction f with
  | zero => intro m A hw; rfl
  | succ f ih =>
    intro m A hw
    show (if x_hd A = 0 then (A, 0) else ((x_lots L T f (x_rnd m) (x_stp L T (x_lot m A) A)).1, (x_lots L T f (x_rnd m) (x_stp L T (x_lot m A) A)).2 + 1)) = (if x_hd A = 0 then (A, 0) else ((x_lots M U f (x_rnd m) (x_stp M U (x_lot m A) A)).1, (x_lots M U f (x_rnd m) (x_stp M U (x_lot m A) A)).2 + 1))
    by_cases h : x_hd A = 0
    · rw [if_pos h, if_pos h]
    · rw [if_neg h, if_neg h]
      obtain ⟨s1, s2, s3, s4⟩ := x_lot_s (m := m) hw hn4 h
      have hv : x_lot m A < 8 * n := by unfold x_lot; omega
      rw [← x_stp_c (hL _ hv).1 hT, ih _ _ (x_AW_stp hw (hL _ hv).2 (by omega))]
theorem o_lots {a b : Int32} (H : x_Inv S) : x_Op xs (d + 5) 67 135 [.int a, .int b] S := by
  obtain ⟨c, n1, n2, n3, n4⟩ := x_view H
  have e14 : (14 : Int32).toInt = (14 : Nat) := by decide
  have e99 : (999999 : Int32).toInt = (999999 : Nat) := by decide
  rcases n4 with ⟨p1, p2, _⟩ | ⟨p1, p2, p3, p4⟩
  case inl =>
    refine x_Op_rd (v := -1000002) H ?_ ?_
    · refine x_Ci_of (by rw [ml_67]; rfl) (T_67_0 ?_)
      rw [if_pos p1]
      exact x_rt_i rfl
    · refine x_Ci_of (by rw [ml_135]; rfl) (T_135_0 ?_)
      rw [if_pos p2]
      exact x_rt_i rfl
  case inr =>
  have hgt : (14 : Int32) < a ↔ ¬ a ≤ 14 := Int32.not_le.symm
  by_cases ha : 1 ≤ a ∧ a ≤ 14
  case neg =>
    refine x_Op_rd (v := -1000001) H ?_ ?_
    · refine x_Ci_of (by rw [ml_67]; rfl) (T_67_0 ?_)
      rw [p1, if_neg (by decide)]
      by_cases h1 : a < 1
      · rw [if_pos h1]; exact x_rt_i rfl
      · rw [if_neg h1, if_pos (hgt.mpr (fun z => ha ⟨Int32.not_lt.mp h1, z⟩))]; exact x_rt_i rfl
    · refine x_Ci_of (by rw [ml_135]; rfl) (T_135_0 ?_)
      rw [p2, if_neg (by decide)]
      refine x_rd c_in ?_
      rw [x_in1 (b := 14) (by decide), if_pos (x_b_0.mpr (fun z => ha (by rw [decide_eq_true_eq] at z; exact z)))]
      exact x_rt_i rfl
  case pos =>
  by_cases hb : 1 ≤ b ∧ b ≤ 999999
  case neg =>
    refine x_Op_rd (v := -1000001) H ?_ ?_
    · refine x_Ci_of (by rw [ml_67]; rfl) (T_67_0 ?_)
      rw [p1, if_neg (by decide), if_neg (fun z => x_lt1.mp z ha.1), if_neg (fun z => hgt.mp z ha.2)]
      by_cases h1 : b < 1
      · rw [if_pos h1]; exact x_rt_i rfl
      · rw [if_neg h1, if_neg (fun z => hb ⟨Int32.not_lt.mp h1, z⟩)]; exact x_rt_i rfl
    · refine x_Ci_of (by rw [ml_135]; rfl) (T_135_0 ?_)
      rw [p2, if_neg (by decide)]
      refine x_rd c_in ?_
      rw [x_in1 (b := 14) (by decide), if_neg (x_b_ne (by rw [decide_eq_true_eq]; exact ha))]
      refine x_rd c_in ?_
      rw [x_in1 (b := 999999) (by decide), if_pos (x_b_0.mpr (fun z => hb (by rw [decide_eq_true_eq] at z; exact z)))]
      exact x_rt_i rfl
  case pos =>
  obtain ⟨q, k1, k2, rfl⟩ := (x_le8 e14 (by decide)).mp ha
  obtain ⟨m, m1, m2, rfl⟩ := (x_le8 e99 (by decide)).mp hb
  have p4' := p4
  obtain ⟨q1, q2, A, q3, q4, q5⟩ := p4
  have hL14 : ∀ v, v < 8 * c → S 14 v = S 66 v ∧ ∃ m : Nat, m < 512 ∧ S 14 v = nI m := fun v hv => by
    have h := x_On_v p4' hv
    exact ⟨h.1, by rw [h.1]; exact h.2⟩
  have hx : x_Ci xs (d + 5) 67 [.ref 8, .int (nI q), .int (nI m)] S (fun v S' => v = nI (x_lots (S 14) (S 13) q m A).2 ∧ x_GC S' 12 (x_lots (S 14) (S 13) q m A).1 ∧ ∀ p k, ¬ (p = 12 ∧ 6 ≤ k ∧ k ≤ 9) → p ≠ 15 → p ≠ 16 → S' p k = S p k) := by
    refine x_Ci_of (by rw [ml_67]; rfl) (T_67_0 ?_)
    rw [p1, if_neg (by decide), if_neg (fun z => x_lt1.mp z ha.1), if_neg (fun z => hgt.mp z ha.2), if_neg (fun z => x_lt1.mp z hb.1), if_pos hb.2, nI_l (by omega)]
    have h := c_lotsC (xs := xs) (d := d) (S := S) (q := q) (nI m) n1 k2 (fun v hv => (hL14 v hv).2) q 0 m S A (by omega) (by omega) n2 q3 q5 (fun p k _ _ _ => rfl)
    rw [Nat.zero_add] at h
    exact h
  refine x_Ci_weak hx ?_
  rintro v T ⟨rfl, hTC, hT⟩
  have t57 : ∀ k, T 57 k = S 57 k := fun k => hT 57 k (by omega) (by omega) (by omega)
  have hz : x_Ci xs (d + 5) 135 [.ref 56, .int (nI q), .int (nI m)] T (fun v S' => v = nI (x_lots (S 14) (S 13) q m A).2 ∧ x_GM S' 0 (x_lots (S 14) (S 13) q m A).1 ∧ ∀ p k, ¬ (p = 57 ∧ 25 ≤ k ∧ k ≤ 32) → S' p k = T p k) := by
    refine x_Ci_of (by rw [ml_135]; rfl) (T_135_0 ?_)
    rw [t57, p2, if_neg (by decide)]
    refine x_rd c_in ?_
    rw [x_in1 (b := 14) (by decide), if_neg (x_b_ne (by rw [decide_eq_true_eq]; exact ha))]
    refine x_rd c_in ?_
    rw [x_in1 (b := 999999) (by decide), if_neg (x_b_ne (by rw [decide_eq_true_eq]; exact hb)), nI_l (by omega)]
    have hm : x_GM T 0 A := by
      obtain ⟨m1, m2, m3, m4', m5, m6, m7, m8⟩ := q4
      exact ⟨(t57 _).trans m1, (t57 _).trans m2, (t57 _).trans m3, (t57 _).trans m4', (t57 _).trans m5, (t57 _).trans m6, (t57 _).trans m7, (t57 _).trans m8⟩
    have h := c_lotsM (xs := xs) (d := d + 1) (S := T) (q := q) (nI m) (L := S 14) (T := S 13) n1 k2 (fun v hv => ⟨by rw [hT 66 _ (by omega) (by omega) (by omega)]; exact (hL14 v hv).1.symm, (hL14 v hv).2⟩) (fun P => by rw [x_On_w p4']; exact x_wsum_c 9 (fun j hj => t57 _)) q 0 m T A (by omega) (by omega) hm q5 (fun p k _ => rfl) .null .null .null .null
    rw [Nat.zero_add] at h
    exact h
  refine x_Ci_weak hz ?_
  rintro w S2 ⟨rfl, h2M, hS2⟩
  refine ⟨rfl, x_Inv_pl H n2 n1 p1 (fun p k z0 z1 z2 z3 z4 => by rw [hS2 p k z4, hT p k z1 z2 z3]) ?_ h2M (x_lots_w n1 (fun v hv => (hL14 v hv).2) _ _ _ q5)⟩
  obtain ⟨c1, c2, c3, c4, c5, c6, c7, c8⟩ := hTC
  have f : ∀ p k, 12 ≤ p → p ≤ 16 → S2 p k = T p k := fun p k z1 z2 => hS2 p k (by omega)
  exact ⟨(f _ _ (by omega) (by omega)).trans c1, (f _ _ (by omega) (by omega)).trans c2, (f _ _ (by omega) (by omega)).trans c3, (f _ _ (by omega) (by omega)).trans c4, (f _ _ (by omega) (by omega)).trans c5, (f _ _ (by omega) (by omega)).trans c6, (f _ _ (by omega) (by omega)).trans c7, (f _ _ (by omega) (by omega)).trans c8⟩
end LOTS
