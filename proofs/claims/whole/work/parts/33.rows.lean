/-! ROWS: row, set, drop -/
def x_fl (S : x_M) (p n : Nat) (v : Int32) : x_M := fun q j => if q = p ∧ j < n then v else S q j
theorem x_up_eq {S : x_M} {p k q j : Nat} {v : Int32} (h : q = p ∧ j = k) : x_up S p k v q j = v := if_pos h
theorem x_fl_eq {S : x_M} {p n q j : Nat} {v : Int32} (h : q = p ∧ j < n) : x_fl S p n v q j = v := if_pos h
theorem x_fl_ne {S : x_M} {p n q j : Nat} {v : Int32} (h : ¬ (q = p ∧ j < n)) : x_fl S p n v q j = S q j := if_neg h
theorem x_cp_eq {S : x_M} {p sp q dp n r j : Nat} (h : r = q ∧ dp ≤ j ∧ j < dp + n) : x_cp S p sp q dp n r j = S p (sp + (j - dp)) := if_pos h
theorem x_cp_ne {S : x_M} {p sp q dp n r j : Nat} (h : ¬ (r = q ∧ dp ≤ j ∧ j < dp + n)) : x_cp S p sp q dp n r j = S r j := if_neg h
/-- n ints of p from o on -/
def x_fl2 (S : x_M) (p o n : Nat) (v : Int32) : x_M := fun q j => if q = p ∧ o ≤ j ∧ j < o + n then v else S q j
theorem x_fl2_eq {S : x_M} {p o n q j : Nat} {v : Int32} (h : q = p ∧ o ≤ j ∧ j < o + n) : x_fl2 S p o n v q j = v := if_pos h
theorem x_fl2_ne {S : x_M} {p o n q j : Nat} {v : Int32} (h : ¬ (q = p ∧ o ≤ j ∧ j < o + n)) : x_fl2 S p o n v q j = S q j := if_neg h
theorem x_fl_0 {S : x_M} {p : Nat} {v : Int32} : x_fl S p 0 v = S := by
  funext q j
  unfold x_fl
  rw [if_neg (by omega)]
theorem x_fl_s {S : x_M} {p n : Nat} {v : Int32} : x_up (x_fl S p n v) p n v = x_fl S p (n + 1) v := by
  funext q j
  unfold x_up x_fl
  by_cases h1 : q = p ∧ j = n
  · rw [if_pos h1, if_pos (by omega)]
  · rw [if_neg h1]
    by_cases h2 : q = p ∧ j < n
    · rw [if_pos h2, if_pos (by omega)]
    · rw [if_neg h2, if_neg (by omega)]
theorem x_rt_v {P : x_M → Prop} {S : x_M} (h : P S) : (none : Option Value) = none ∧ P S := ⟨rfl, h⟩
section ROWS
variable {xs : List Int32} {d : Nat} {S : x_M}
theorem c_fill {p n : Nat} {v : Int32} (hp : x_tg p = 10) (hn : x_ln p = n) (hb : n < 2 ^ 31) : x_Cv xs (d + 1) 182 [.ref p, .int v] S (fun S' => S' = x_fl S p n v) := by
  refine x_Cv_of (by rw [ml_182]; rfl) (T_182_0 hp hn ?_)
  have loop : ∀ m k, k + m = n → x_E xs (d + 1) 182 5 [.ref p, .int v, .int (nI k), .int (nI n)] [] (x_fl S p k v) (fun r S' => r = none ∧ S' = x_fl S p n v) := by
    intro m
    induction m with
    | zero =>
      intro k hk
      have hkn : k = n := by omega
      subst hkn
      refine T_182_5 hp hn ?_
      rw [if_pos (Int32.le_refl _)]
      exact ⟨rfl, rfl⟩
    | succ m ih =>
      intro k hk
      refine T_182_5 hp hn ?_
      rw [if_neg (nI_ge (a := k) (b := n) (by omega) hb)]
      refine ⟨x_ib_n (by omega) hb, ?_⟩
      intro S1 hS1
      rw [nI_clamp (by omega), x_fl_s] at hS1
      subst hS1
      have hi := ih (k + 1) (by omega)
      rw [nI_succ] at hi
      exact hi
  have h0 := loop n 0 (by omega)
  rw [x_fl_0] at h0
  exact h0
theorem c_begin {r : Nat} {l n : Int32} (hr : r < 8) : x_Cv xs (d + 2) 24 [.ref (30 + 2 * r), .int l, .int n] S (fun S' => S' = x_fl (x_up (x_up (x_up S (30 + 2 * r) 1 1) (30 + 2 * r) 2 l) (30 + 2 * r) 3 n) (31 + 2 * r) 40 0) := by
  have ht := x_tg_row hr
  have hi := x_tg_items hr
  have hw : x_rr (30 + 2 * r) 0 = 31 + 2 * r := by rw [x_rr_w ht]; omega
  refine x_Cv_of (by rw [ml_24]; rfl) (T_24_0 ht ?_)
  rintro S1 rfl S2 rfl S3 rfl
  rw [hw]
  refine ⟨_, c_fill hi.1 hi.2 (by decide), ?_⟩
  rintro S4 rfl
  exact ⟨rfl, rfl⟩
/-- what a call begins with: is there such a row? -/
theorem x_row_n {r : Int32} (h : decide (0 ≤ r ∧ r ≤ 7) = true) : ∃ k, k < 8 ∧ r = nI k := by
  simp only [decide_eq_true_eq] at h
  obtain ⟨k, hk, e⟩ := x_le_nat (n := 7) (Int32.not_lt.mpr h.1) h.2 (by decide)
  exact ⟨k, by omega, e⟩
theorem x_row_d {k : Nat} (h : k < 8) : decide (0 ≤ nI k ∧ nI k ≤ 7) = true := by
  simp only [decide_eq_true_eq]
  exact ⟨nI_pos' (by omega), nI_le (a := k) (b := 7) (by omega) (by decide)⟩
theorem x_b_ne {c : Bool} (h : c = true) : ¬ x_b c = 0 := fun z => x_b_0.mp z h
theorem c_row_bad {r l n : Int32} (h : ¬ ((0 ≤ r ∧ r ≤ 7) ∧ (0 ≤ l ∧ l ≤ 2) ∧ n ≤ 40)) : x_Cr xs (d + 3) 43 [.ref 8, .int r, .int l, .int n] S (-1000001) := by
  refine x_Ci_of (by rw [ml_43]; rfl) (T_43_0 (x_rd c_isRow ?_))
  split
  next => exact x_rt_i rfl
  next h1 =>
    split
    next => exact x_rt_i rfl
    next h2 =>
      split
      next => exact x_rt_i rfl
      next h3 =>
        split
        next h4 =>
          exfalso
          refine h ⟨by rw [x_b_0] at h1; simpa using h1, ⟨Int32.not_lt.mp h2, ?_⟩, h4⟩
          have h5 := Int32.not_le.mp h3
          rw [Int32.lt_iff_toInt_lt] at h5
          rw [Int32.le_iff_toInt_le]
          have e2 : (2 : Int32).toInt = 2 := by decide
          have e3 : (3 : Int32).toInt = 3 := by decide
          omega
        next => exact x_rt_i rfl
theorem c_row_badM {r l n : Int32} (h : ¬ ((0 ≤ r ∧ r ≤ 7) ∧ (0 ≤ l ∧ l ≤ 2) ∧ n ≤ 40)) : x_Cr xs (d + 3) 99 [.ref 56, .int r, .int l, .int n] S (-1000001) := by
  refine x_Ci_of (by rw [ml_99]; rfl) (T_99_0 (x_rd c_isRowM ?_))
  split
  next => exact x_rt_i rfl
  next h1 =>
    refine x_rd c_in ?_
    rw [show (2 : Int64) = (2 : Int32).toInt64 by decide, x_in0]
    split
    next => exact x_rt_i rfl
    next h2 =>
      split
      next h4 =>
        exfalso
        exact h ⟨by rw [x_b_0] at h1; simpa using h1, by rw [x_b_0] at h2; simpa using h2, h4⟩
      next => exact x_rt_i rfl
theorem c_row_neg {r : Nat} {l n : Int32} (hr : r < 8) (hl : 0 ≤ l ∧ l ≤ 2) (hn : n ≤ 40) (h0 : ¬ 0 ≤ n) : x_Ci xs (d + 3) 43 [.ref 8, .int (nI r), .int l, .int n] S (fun v S' => v = (-1000010) - 4 ∧ S' = x_up S 8 9 4) := by
  refine x_Ci_of (by rw [ml_43]; rfl) (T_43_0 (x_rd c_isRow ?_))
  rw [if_neg (x_b_ne (x_row_d hr)), if_neg (Int32.not_lt.mpr hl.1), if_neg (fun z => absurd (Int32.le_trans z hl.2) (by decide)), if_pos hn, if_neg h0]
  refine ⟨_, c_found, ?_⟩
  rintro v S1 ⟨rfl, rfl⟩
  exact ⟨_, rfl, rfl, rfl⟩
theorem c_row_negM {r : Nat} {l n : Int32} (hr : r < 8) (hl : 0 ≤ l ∧ l ≤ 2) (hn : n ≤ 40) (h0 : ¬ 0 ≤ n) : x_Ci xs (d + 3) 99 [.ref 56, .int (nI r), .int l, .int n] S (fun v S' => v = (-1000010) - 4 ∧ S' = x_up S 56 4 4) := by
  refine x_Ci_of (by rw [ml_99]; rfl) (T_99_0 (x_rd c_isRowM ?_))
  rw [if_neg (x_b_ne (x_row_d hr))]
  refine x_rd c_in ?_
  rw [show (2 : Int64) = (2 : Int32).toInt64 by decide, x_in0, if_neg (x_b_ne (by simpa using hl)), if_pos hn, if_neg h0]
  refine ⟨_, c_find, ?_⟩
  rintro v S1 ⟨rfl, rfl⟩
  exact ⟨_, rfl, rfl, rfl⟩
theorem c_row_ok {r n : Nat} {l : Int32} (hr : r < 8) (hl : 0 ≤ l ∧ l ≤ 2) (hn : n ≤ 40) : x_Ci xs (d + 3) 43 [.ref 8, .int (nI r), .int l, .int (nI n)] S (fun v S' => v = nI n ∧ S' = x_up (x_fl (x_up (x_up (x_up S (30 + 2 * r) 1 1) (30 + 2 * r) 2 l) (30 + 2 * r) 3 (nI n)) (31 + 2 * r) 40 0) 8 9 0) := by
  refine x_Ci_of (by rw [ml_43]; rfl) (T_43_0 (x_rd c_isRow ?_))
  rw [if_neg (x_b_ne (x_row_d hr)), if_neg (Int32.not_lt.mpr hl.1), if_neg (fun z => absurd (Int32.le_trans z hl.2) (by decide)), if_pos (show nI n ≤ 40 from nI_le (a := n) (b := 40) hn (by decide)), if_pos (nI_pos' (by omega))]
  refine ⟨x_ib_n hr (by decide), ?_⟩
  rw [nI_clamp (by omega), x_rr_9 hr]
  refine ⟨_, c_begin hr, ?_⟩
  rintro S1 rfl
  refine ⟨_, c_passed, ?_⟩
  rintro v S2 ⟨rfl, rfl⟩
  exact ⟨_, rfl, rfl, rfl⟩
theorem x_fl2_0 {S : x_M} {p o : Nat} {v : Int32} : x_fl2 S p o 0 v = S := by
  funext q j
  unfold x_fl2
  rw [if_neg (by omega)]
theorem x_fl2_s {S : x_M} {p o n : Nat} {v : Int32} : x_up (x_fl2 S p o n v) p (o + n) v = x_fl2 S p o (n + 1) v := by
  funext q j
  unfold x_up x_fl2
  by_cases h1 : q = p ∧ j = o + n
  · rw [if_pos h1, if_pos (by omega)]
  · rw [if_neg h1]
    by_cases h2 : q = p ∧ o ≤ j ∧ j < o + n
    · rw [if_pos h2, if_pos (by omega)]
    · rw [if_neg h2, if_neg (by omega)]
theorem c_row_okM {r n : Nat} {l : Int32} (hr : r < 8) (hl : 0 ≤ l ∧ l ≤ 2) (hn : n ≤ 40) : x_Ci xs (d + 3) 99 [.ref 56, .int (nI r), .int l, .int (nI n)] S (fun v S' => v = nI n ∧ S' = x_up (x_fl2 (x_up (x_up S 59 r l) 60 r (nI n)) 61 (40 * r) n 0) 56 4 0) := by
  refine x_Ci_of (by rw [ml_99]; rfl) (T_99_0 (x_rd c_isRowM ?_))
  rw [if_neg (x_b_ne (x_row_d hr))]
  refine x_rd c_in ?_
  rw [show (2 : Int64) = (2 : Int32).toInt64 by decide, x_in0, if_neg (x_b_ne (by simpa using hl)), if_pos (show nI n ≤ 40 from nI_le (a := n) (b := 40) hn (by decide)), if_pos (nI_pos' (by omega))]
  refine ⟨x_ib_n hr (by decide), ?_⟩
  rw [nI_clamp (by omega)]
  rintro S1 rfl
  refine ⟨x_ib_n hr (by decide), ?_⟩
  rintro S2 rfl
  generalize x_up (x_up S 59 r l) 60 r (nI n) = S0
  have loop : ∀ m k, k + m = n → x_E xs (d + 3) 99 55 [.ref 56, .int (nI r), .int l, .int (nI n), .int (nI k)] [] (x_fl2 S0 61 (40 * r) k 0) (fun q S' => ∃ v : Int32, q = some (.int v) ∧ v = nI n ∧ S' = x_up (x_fl2 S0 61 (40 * r) n 0) 56 4 0) := by
    intro m
    induction m with
    | zero =>
      intro k hk
      have hkn : k = n := by omega
      subst hkn
      refine T_99_55 ?_
      rw [if_pos (Int32.le_refl _)]
      refine ⟨_, c_give, ?_⟩
      rintro v S1 ⟨rfl, rfl⟩
      exact ⟨_, rfl, rfl, rfl⟩
    | succ m ih =>
      intro k hk
      refine T_99_55 ?_
      rw [if_neg (nI_ge (a := k) (b := n) (by omega) (by omega))]
      rw [show (40 : Int32) * nI r + nI k = nI (40 * r + k) by rw [show (40 : Int32) = nI 40 from rfl, nI_mul, nI_add]]
      refine ⟨x_ib_n (by omega) (by decide), ?_⟩
      rw [nI_clamp (by omega)]
      intro S1 hS1
      rw [x_fl2_s] at hS1
      subst hS1
      have hi := ih (k + 1) (by omega)
      rw [nI_succ] at hi
      exact hi
  have h0 := loop n 0 (by omega)
  rw [x_fl2_0] at h0
  exact h0
theorem o_row {r l n : Int32} (H : x_Inv S) : x_Op xs (d + 3) 43 99 [.int r, .int l, .int n] S := by
  by_cases hb : (0 ≤ r ∧ r ≤ 7) ∧ (0 ≤ l ∧ l ≤ 2) ∧ n ≤ 40
  · obtain ⟨hr, hl, hn⟩ := hb
    obtain ⟨k, hk, rfl⟩ := x_row_n (r := r) (by simpa using hr)
    by_cases h0 : 0 ≤ n
    · obtain ⟨j, hj, rfl⟩ := x_le_nat (n := 40) (Int32.not_lt.mpr h0) hn (by decide)
      refine x_Ci_weak (c_row_ok hk hl hj) ?_
      rintro v S1 ⟨rfl, rfl⟩
      refine x_Ci_weak (c_row_okM hk hl hj) ?_
      rintro w S2 ⟨rfl, rfl⟩
      refine ⟨rfl, ?_⟩
      obtain ⟨h1, h2, ⟨h3, h4, h5⟩, h6, h7, h8⟩ := H
      generalize hS : x_up (x_fl2 (x_up (x_up (x_up (x_fl (x_up (x_up (x_up S (30 + 2 * k) 1 1) (30 + 2 * k) 2 l) (30 + 2 * k) 3 (nI j)) (31 + 2 * k) 40 0) 8 9 0) 59 k l) 60 k (nI j)) 61 (40 * k) j 0) 56 4 0 = S'
      have key : ∀ p q, ¬ (p = 30 + 2 * k ∧ (q = 1 ∨ q = 2 ∨ q = 3)) → ¬ (p = 31 + 2 * k ∧ q < 40) → ¬ (p = 8 ∧ q = 9) → ¬ (p = 56 ∧ q = 4) → ¬ ((p = 59 ∨ p = 60) ∧ q = k) → ¬ (p = 61 ∧ 40 * k ≤ q ∧ q < 40 * k + j) → S' p q = S p q := by
        intro p q z1 z2 z3 z4 z5 z6
        rw [← hS, x_up_ne z4]
        unfold x_fl2
        rw [if_neg z6, x_up_ne (by omega), x_up_ne (by omega), x_up_ne z3]
        unfold x_fl
        rw [if_neg z2, x_up_ne (by omega), x_up_ne (by omega), x_up_ne (by omega)]
      refine ⟨fun r hr => ?_, x_TI_c (fun p q hp => key p q (by omega) (by omega) (by omega) (by omega) (by omega) (by omega)) h2, ⟨x_GI_c (fun p q hp => key p q (by omega) (by omega) (by omega) (by omega) (by omega) (by omega)) h3, x_GI_c (fun p q hp => key p q (by omega) (by omega) (by omega) (by omega) (by omega) (by omega)) h4, x_GI_c (fun p q hp => key p q (by omega) (by omega) (by omega) (by omega) (by omega) (by omega)) h5⟩, x_UI_c (fun p q hp => key p q (by omega) (by omega) (by omega) (by omega) (by omega) (by omega)) h6, x_BI_c (fun p q hp => key p q (by omega) (by omega) (by omega) (by omega) (by omega) (by omega)) h7, ?_⟩
      · by_cases hrk : r = k
        · subst hrk
          have e1 : S' (30 + 2 * r) 1 = 1 := by
            rw [← hS]
            repeat (first | rw [x_up_ne (by omega)] | rw [x_up_eq (by omega)] | rw [x_fl_ne (by omega)] | rw [x_fl_eq (by omega)] | rw [x_fl2_ne (by omega)] | rw [x_fl2_eq (by omega)])
          have e2 : S' (30 + 2 * r) 2 = l := by
            rw [← hS]
            repeat (first | rw [x_up_ne (by omega)] | rw [x_up_eq (by omega)] | rw [x_fl_ne (by omega)] | rw [x_fl_eq (by omega)] | rw [x_fl2_ne (by omega)] | rw [x_fl2_eq (by omega)])
          have e3 : S' (30 + 2 * r) 3 = nI j := by
            rw [← hS]
            repeat (first | rw [x_up_ne (by omega)] | rw [x_up_eq (by omega)] | rw [x_fl_ne (by omega)] | rw [x_fl_eq (by omega)] | rw [x_fl2_ne (by omega)] | rw [x_fl2_eq (by omega)])
          have e4 : S' 59 r = l := by
            rw [← hS]
            repeat (first | rw [x_up_ne (by omega)] | rw [x_up_eq (by omega)] | rw [x_fl_ne (by omega)] | rw [x_fl_eq (by omega)] | rw [x_fl2_ne (by omega)] | rw [x_fl2_eq (by omega)])
          have e5 : S' 60 r = nI j := by
            rw [← hS]
            repeat (first | rw [x_up_ne (by omega)] | rw [x_up_eq (by omega)] | rw [x_fl_ne (by omega)] | rw [x_fl_eq (by omega)] | rw [x_fl2_ne (by omega)] | rw [x_fl2_eq (by omega)])
          have e6 : ∀ i, i < j → S' 61 (40 * r + i) = 0 := fun i hi => by
            rw [← hS]
            repeat (first | rw [x_up_ne (by omega)] | rw [x_up_eq (by omega)] | rw [x_fl_ne (by omega)] | rw [x_fl_eq (by omega)] | rw [x_fl2_ne (by omega)] | rw [x_fl2_eq (by omega)])
          have e7 : ∀ i, i < j → S' (31 + 2 * r) i = 0 := fun i hi => by
            rw [← hS]
            repeat (first | rw [x_up_ne (by omega)] | rw [x_up_eq (by omega)] | rw [x_fl_ne (by omega)] | rw [x_fl_eq (by omega)] | rw [x_fl2_ne (by omega)] | rw [x_fl2_eq (by omega)])
          refine Or.inl ⟨e1, ?_, by rw [e4, e2], j, hj, e3, e5, fun i hi => by rw [e6 i hi, e7 i hi]⟩
          rw [e2]
          obtain ⟨m, hm, rfl⟩ := x_le_nat (n := 2) (Int32.not_lt.mpr hl.1) hl.2 (by decide)
          rcases (by omega : m = 0 ∨ m = 1 ∨ m = 2) with rfl | rfl | rfl
          · exact Or.inl rfl
          · exact Or.inr (Or.inl rfl)
          · exact Or.inr (Or.inr rfl)
        · have h1r := h1 r hr
          unfold x_RI at h1r ⊢
          rw [key (30 + 2 * r) 1 (by omega) (by omega) (by omega) (by omega) (by omega) (by omega), key (30 + 2 * r) 2 (by omega) (by omega) (by omega) (by omega) (by omega) (by omega), key (30 + 2 * r) 3 (by omega) (by omega) (by omega) (by omega) (by omega) (by omega), key 59 r (by omega) (by omega) (by omega) (by omega) (by omega) (by omega), key 60 r (by omega) (by omega) (by omega) (by omega) (by omega) (by omega)]
          rcases h1r with ⟨a1, a2, a3, n2, a4, a5, a6, a7⟩ | h1r
          · exact Or.inl ⟨a1, a2, a3, n2, a4, a5, a6, fun i hi => by rw [key 61 _ (by omega) (by omega) (by omega) (by omega) (by omega) (by omega), key (31 + 2 * r) _ (by omega) (by omega) (by omega) (by omega) (by omega) (by omega)]; exact a7 i hi⟩
          · exact Or.inr h1r
      · refine ⟨by rw [key 8 8 (by omega) (by omega) (by omega) (by omega) (by omega) (by omega), key 56 3 (by omega) (by omega) (by omega) (by omega) (by omega) (by omega)]; exact h8.1, ?_⟩
        rw [← hS]
        repeat (first | rw [x_up_ne (by omega)] | rw [x_up_eq (by omega)] | rw [x_fl_ne (by omega)] | rw [x_fl_eq (by omega)] | rw [x_fl2_ne (by omega)] | rw [x_fl2_eq (by omega)])
    · refine x_Ci_weak (c_row_neg hk hl hn h0) ?_
      rintro v S1 ⟨rfl, rfl⟩
      refine x_Ci_weak (c_row_negM hk hl hn h0) ?_
      rintro w S2 ⟨rfl, rfl⟩
      exact ⟨rfl, x_Inv_st H⟩
  · exact x_Op_rd H (c_row_bad hb) (c_row_badM hb)
end ROWS
