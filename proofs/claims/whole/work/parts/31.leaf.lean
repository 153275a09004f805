/-! CONTRACTS: methods that only read -/
def x_b (c : Bool) : Int32 := if c = true then 1 else 0
theorem x_b01 (c : Bool) : x_b c = 0 ∨ x_b c = 1 := by cases c <;> simp [x_b]
theorem x_b_t {c : Bool} (h : c = true) : 1 = x_b c := by subst h; rfl
theorem x_b_f {c : Bool} (h : ¬ c = true) : 0 = x_b c := by
  cases c
  · rfl
  · exact absurd rfl h
theorem x_b_0 {c : Bool} : x_b c = 0 ↔ ¬ c = true := by cases c <;> simp [x_b]
theorem x_b_1 {c : Bool} : x_b c = 1 ↔ c = true := by cases c <;> simp [x_b]
/-- returns v, memory stays -/
def x_Cr (xs : List Int32) (d z : Nat) (A : List Value) (S : x_M) (v : Int32) : Prop := x_Ci xs d z A S (fun w S' => w = v ∧ S' = S)
section LEAF
variable {xs : List Int32} {d : Nat} {S : x_M}
/-- a read in the middle of a walk -/
theorem x_rd {z : Nat} {A : List Value} {v : Int32} {K : Int32 → x_M → Prop} (h : x_Cr xs d z A S v) (k : K v S) : ∃ P : Int32 → x_M → Prop, x_Ci xs d z A S P ∧ ∀ (w : Int32) (S1 : x_M), P w S1 → K w S1 := ⟨_, h, fun w S1 q => by obtain ⟨rfl, rfl⟩ := q; exact k⟩
theorem x_rt_i {v w : Int32} (h : v = w) : ∃ u : Int32, some (Value.int v) = some (.int u) ∧ u = w ∧ S = S := ⟨v, rfl, h, rfl⟩
theorem c_in {a l m : Int64} : x_Cr xs (d + 1) 101 [.long a, .long l, .long m] S (x_b (decide (l ≤ a ∧ a ≤ m))) := by
  refine x_Ci_of (by rw [ml_101]; rfl) (T_101_0 ?_)
  split
  next h =>
    have h := x_lc_lt.mp h
    exact x_rt_i (x_b_f (fun z => by simp only [decide_eq_true_eq] at z; exact absurd z.1 (Int64.not_le.mpr h)))
  next h =>
    have h : ¬ a < l := fun z => h (x_lc_lt.mpr z)
    split
    next h2 =>
      have h2 := x_lc_gt.mp h2
      exact x_rt_i (x_b_f (fun z => by simp only [decide_eq_true_eq] at z; exact absurd z.2 (Int64.not_le.mpr h2)))
    next h2 =>
      have h2 : ¬ m < a := fun z => h2 (x_lc_gt.mpr z)
      exact x_rt_i (x_b_t (by simp only [decide_eq_true_eq]; exact ⟨Int64.not_lt.mp h, Int64.not_lt.mp h2⟩))
def x_has (a k : Int32) : Bool := decide (((a >>> (k &&& 31)) &&& 1) = 1)
theorem c_has {a k : Int32} : x_Cr xs (d + 1) 122 [.int a, .int k] S (x_b (x_has a k)) := by
  refine x_Ci_of (by rw [ml_122]; rfl) (T_122_0 ?_)
  split
  next h => exact x_rt_i (x_b_t (by unfold x_has; simpa using h))
  next h => exact x_rt_i (x_b_f (by unfold x_has; simpa using h))
/-- between 0 and a bound: as the reference asks -/
theorem x_in0 {a b : Int32} : decide ((0 : Int64) ≤ a.toInt64 ∧ a.toInt64 ≤ b.toInt64) = decide (0 ≤ a ∧ a ≤ b) := by
  have h0 : (0 : Int64) = (0 : Int32).toInt64 := by decide
  rw [h0]
  simp only [x_i64_le]
theorem c_isRowM {a : Int32} : x_Cr xs (d + 2) 100 [.int a] S (x_b (decide (0 ≤ a ∧ a ≤ 7))) := by
  refine x_Ci_of (by rw [ml_100]; rfl) (T_100_0 (x_rd c_in ⟨x_b01 _, x_rt_i ?_⟩))
  rw [show (7 : Int64) = (7 : Int32).toInt64 by decide, x_in0]
theorem c_isWayM {a : Int32} : x_Cr xs (d + 2) 126 [.int a] S (x_b (decide (0 ≤ a ∧ a ≤ 7))) := by
  refine x_Ci_of (by rw [ml_126]; rfl) (T_126_0 (x_rd c_in ⟨x_b01 _, x_rt_i ?_⟩))
  rw [show (7 : Int64) = (7 : Int32).toInt64 by decide, x_in0]
theorem c_isPlacesM {a : Int32} : x_Cr xs (d + 2) 128 [.int a] S (x_b (decide (0 ≤ a ∧ a ≤ 511))) := by
  refine x_Ci_of (by rw [ml_128]; rfl) (T_128_0 (x_rd c_in ⟨x_b01 _, x_rt_i ?_⟩))
  rw [show (511 : Int64) = (511 : Int32).toInt64 by decide, x_in0]
theorem c_isCardM {a : Int32} : x_Cr xs (d + 2) 125 [.ref 56, .int a] S (x_b (decide (0 ≤ a ∧ a ≤ S 57 1 - 1))) := by
  refine x_Ci_of (by rw [ml_125]; rfl) (T_125_0 (x_rd c_in ⟨x_b01 _, x_rt_i ?_⟩))
  rw [x_in0]
theorem c_isRow {a : Int32} : x_Cr xs (d + 1) 44 [.int a] S (x_b (decide (0 ≤ a ∧ a ≤ 7))) := by
  refine x_Ci_of (by rw [ml_44]; rfl) (T_44_0 ?_)
  split
  next h => exact x_rt_i (x_b_f (fun z => by simp only [decide_eq_true_eq] at z; exact absurd z.1 (Int32.not_le.mpr h)))
  next h =>
    split
    next h2 => exact x_rt_i (x_b_f (fun z => by simp only [decide_eq_true_eq] at z; exact absurd (Int32.le_trans h2 z.2) (by decide)))
    next h2 =>
      refine x_rt_i (x_b_t ?_)
      simp only [decide_eq_true_eq]
      refine ⟨Int32.not_lt.mp h, ?_⟩
      have h3 := Int32.not_le.mp h2
      rw [Int32.lt_iff_toInt_lt] at h3
      rw [Int32.le_iff_toInt_le]
      have e8 : (8 : Int32).toInt = 8 := by decide
      have e7 : (7 : Int32).toInt = 7 := by decide
      omega
theorem c_arePlaces {a : Int32} : x_Cr xs (d + 1) 62 [.int a] S (x_b (decide (0 ≤ a ∧ a ≤ 511))) := by
  refine x_Ci_of (by rw [ml_62]; rfl) (T_62_0 ?_)
  split
  next h => exact x_rt_i (x_b_f (fun z => by simp only [decide_eq_true_eq] at z; exact absurd z.1 (Int32.not_le.mpr h)))
  next h =>
    split
    next h2 => exact x_rt_i (x_b_f (fun z => by simp only [decide_eq_true_eq] at z; exact absurd z.2 (Int32.not_le.mpr h2)))
    next h2 => exact x_rt_i (x_b_t (by simp only [decide_eq_true_eq]; exact ⟨Int32.not_lt.mp h, Int32.not_lt.mp h2⟩))
theorem c_isCard {a : Int32} : x_Cr xs (d + 1) 60 [.ref 8, .int a] S (x_b (decide (0 ≤ a ∧ a < S 12 5))) := by
  refine x_Ci_of (by rw [ml_60]; rfl) (T_60_0 ?_)
  split
  next h => exact x_rt_i (x_b_f (fun z => by simp only [decide_eq_true_eq] at z; exact absurd z.1 (Int32.not_le.mpr h)))
  next h =>
    split
    next h2 => exact x_rt_i (x_b_f (fun z => by simp only [decide_eq_true_eq] at z; exact absurd z.2 (Int32.not_lt.mpr h2)))
    next h2 => exact x_rt_i (x_b_t (by simp only [decide_eq_true_eq]; exact ⟨Int32.not_lt.mp h, Int32.not_le.mp h2⟩))
theorem x_le7 {a : Int32} : a ≤ 7 ↔ a < 8 := by
  have e8 : (8 : Int32).toInt = 8 := by decide
  have e7 : (7 : Int32).toInt = 7 := by decide
  rw [Int32.lt_iff_toInt_lt, Int32.le_iff_toInt_le, e7, e8]
  omega
theorem c_isPlay {a w : Int32} : x_Cr xs (d + 2) 59 [.ref 8, .int a, .int w] S (x_b (decide (0 ≤ a ∧ a < S 12 5) && decide (0 ≤ w ∧ w ≤ 7))) := by
  refine x_Ci_of (by rw [ml_59]; rfl) (T_59_0 (x_rd c_isCard ?_))
  split
  next h =>
    rw [x_b_0] at h
    exact x_rt_i (x_b_f (fun z => h (by simp only [Bool.and_eq_true] at z; exact z.1)))
  next h =>
    have h' : decide (0 ≤ a ∧ a < S 12 5) = true := Decidable.not_not.mp (fun z => h (x_b_0.mpr z))
    split
    next h1 => exact x_rt_i (x_b_f (fun z => by simp only [Bool.and_eq_true, decide_eq_true_eq] at z; exact absurd z.2.1 (Int32.not_le.mpr h1)))
    next h1 =>
      split
      next h2 => exact x_rt_i (x_b_f (fun z => by simp only [Bool.and_eq_true, decide_eq_true_eq] at z; exact absurd (x_le7.mp z.2.2) (Int32.not_lt.mpr h2)))
      next h2 => exact x_rt_i (x_b_t (by rw [Bool.and_eq_true]; exact ⟨h', by simp only [decide_eq_true_eq]; exact ⟨Int32.not_lt.mp h1, x_le7.mpr (Int32.not_le.mp h2)⟩⟩))
theorem c_find {a : Int32} : x_Ci xs (d + 1) 102 [.ref 56, .int a] S (fun v S' => v = (-1000010) - a ∧ S' = x_up S 56 4 a) := by
  refine x_Ci_of (by rw [ml_102]; rfl) (T_102_0 ?_)
  rintro S1 rfl
  exact ⟨_, rfl, rfl, rfl⟩
theorem c_give {a : Int32} : x_Ci xs (d + 1) 103 [.ref 56, .int a] S (fun v S' => v = a ∧ S' = x_up S 56 4 0) := by
  refine x_Ci_of (by rw [ml_103]; rfl) (T_103_0 ?_)
  rintro S1 rfl
  exact ⟨_, rfl, rfl, rfl⟩
theorem c_found {a : Int32} : x_Ci xs (d + 1) 45 [.ref 8, .int a] S (fun v S' => v = (-1000010) - a ∧ S' = x_up S 8 9 a) := by
  refine x_Ci_of (by rw [ml_45]; rfl) (T_45_0 ?_)
  rintro S1 rfl
  exact ⟨_, rfl, rfl, rfl⟩
theorem c_passed {a : Int32} : x_Ci xs (d + 1) 46 [.ref 8, .int a] S (fun v S' => v = a ∧ S' = x_up S 8 9 0) := by
  refine x_Ci_of (by rw [ml_46]; rfl) (T_46_0 ?_)
  rintro S1 rfl
  exact ⟨_, rfl, rfl, rfl⟩
/-! worth: the numbers of the places, added -/
def x_wsum (f : Nat → Int32) (P : Int32) : Nat → Int32
  | 0 => 0
  | k + 1 => x_wsum f P k + (if x_has P (nI k) = true then f k else 0)
theorem c_worthOf {g : Nat} {P : Int32} (hg : x_tg g = 0) : x_Cr xs (d + 1) 9 [.ref g, .int P] S (x_wsum (S (x_rr g 0)) P 9) := by
  refine x_Ci_of (by rw [ml_9]; rfl) (T_9_0 hg ?_)
  have loop : ∀ m k, k + m = 9 → x_E xs (d + 1) 9 4 [.ref g, .int P, .int (x_wsum (S (x_rr g 0)) P k), .int (nI k)] [] S (fun r S' => ∃ v : Int32, r = some (.int v) ∧ v = x_wsum (S (x_rr g 0)) P 9 ∧ S' = S) := by
    intro m
    induction m with
    | zero =>
      intro k hk
      have hk9 : k = 9 := by omega
      subst hk9
      refine T_9_4 hg ?_
      rw [if_pos (by decide)]
      exact ⟨_, rfl, rfl, rfl⟩
    | succ m ih =>
      intro k hk
      refine T_9_4 hg ?_
      rw [if_neg (show ¬ (9 : Int32) ≤ nI k from nI_ge (a := k) (b := 9) (by omega) (by decide))]
      have hi := ih (k + 1) (by omega)
      rw [show nI (k + 1) = nI k + 1 from nI_succ k] at hi
      have hx : x_wsum (S (x_rr g 0)) P (k + 1) = x_wsum (S (x_rr g 0)) P k + (if x_has P (nI k) = true then S (x_rr g 0) k else 0) := rfl
      split
      next h =>
        refine ⟨x_ib_n (by omega) (by decide), ?_⟩
        rw [nI_clamp (by omega)]
        rw [hx, if_pos (by unfold x_has; simpa using h)] at hi
        exact hi
      next h =>
        rw [hx, if_neg (by unfold x_has; simpa using h), Int32.add_zero] at hi
        exact hi
  exact loop 9 0 rfl
theorem c_worthOfM {P : Int32} : x_Cr xs (d + 2) 129 [.ref 56, .int P] S (x_wsum (fun k => S 57 (16 + k)) P 9) := by
  refine x_Ci_of (by rw [ml_129]; rfl) (T_129_0 ?_)
  have loop : ∀ m k, k + m = 9 → x_E xs (d + 2) 129 4 [.ref 56, .int P, .int (x_wsum (fun k => S 57 (16 + k)) P k), .int (nI k)] [] S (fun r S' => ∃ v : Int32, r = some (.int v) ∧ v = x_wsum (fun k => S 57 (16 + k)) P 9 ∧ S' = S) := by
    intro m
    induction m with
    | zero =>
      intro k hk
      have hk9 : k = 9 := by omega
      subst hk9
      refine T_129_4 ?_
      rw [if_pos (by decide)]
      exact ⟨_, rfl, rfl, rfl⟩
    | succ m ih =>
      intro k hk
      refine T_129_4 ?_
      rw [if_neg (show ¬ (9 : Int32) ≤ nI k from nI_ge (a := k) (b := 9) (by omega) (by decide))]
      refine x_rd c_has ?_
      have hi := ih (k + 1) (by omega)
      rw [show nI (k + 1) = nI k + 1 from nI_succ k] at hi
      have hx : x_wsum (fun k => S 57 (16 + k)) P (k + 1) = x_wsum (fun k => S 57 (16 + k)) P k + (if x_has P (nI k) = true then S 57 (16 + k) else 0) := rfl
      split
      next h =>
        rw [x_b_0] at h
        rw [hx, if_neg h] at hi
        exact hi
      next h =>
        have h' : x_has P (nI k) = true := Decidable.not_not.mp (fun z => h (x_b_0.mpr z))
        rw [show (16 : Int32) + nI k = nI (16 + k) from nI_add 16 k]
        refine ⟨x_ib_n (by omega) (by decide), ?_⟩
        rw [nI_clamp (by omega)]
        rw [hx, if_pos h'] at hi
        exact hi
  exact loop 9 0 rfl
end LEAF
