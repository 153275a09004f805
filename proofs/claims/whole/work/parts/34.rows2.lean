/-! ROWS: set, drop, copy -/
theorem x_sub_i {a b : Int32} (h1 : -2147483648 ≤ a.toInt - b.toInt) (h2 : a.toInt - b.toInt < 2147483648) : (a - b).toInt = a.toInt - b.toInt := by
  rw [Int32.toInt_sub, Int.bmod_def]
  split <;> omega
theorem x_add_i {a b : Int32} (h1 : -2147483648 ≤ a.toInt + b.toInt) (h2 : a.toInt + b.toInt < 2147483648) : (a + b).toInt = a.toInt + b.toInt := by
  rw [Int32.toInt_add, Int.bmod_def]
  split <;> omega
theorem x_ti_lt (a : Int32) : -2147483648 ≤ a.toInt ∧ a.toInt < 2147483648 := ⟨by have := Int32.le_toInt a; omega, by have := Int32.toInt_lt a; omega⟩
/-- n from i on are among m -/
def x_span (i n : Int32) (m : Nat) : Bool := decide (0 ≤ i.toInt ∧ 0 ≤ n.toInt ∧ i.toInt + n.toInt ≤ m)
theorem x_lt0 {a : Int32} : a < 0 ↔ a.toInt < 0 := by rw [Int32.lt_iff_toInt_lt]; rfl
theorem x_ge0 {a : Int32} : 0 ≤ a ↔ 0 ≤ a.toInt := by rw [Int32.le_iff_toInt_le]; rfl
theorem x_span_n {i n : Int32} {m : Nat} (h : x_span i n m = true) (hm : m ≤ 40) : ∃ a b : Nat, i = nI a ∧ n = nI b ∧ a + b ≤ m := by
  unfold x_span at h
  simp only [decide_eq_true_eq] at h
  obtain ⟨h1, h2, h3⟩ := h
  obtain ⟨a, ha, rfl⟩ := nI_of (x := i) (by rw [x_lt0]; omega)
  obtain ⟨b, hb, rfl⟩ := nI_of (x := n) (by rw [x_lt0]; omega)
  rw [nI_toInt ha, nI_toInt hb] at h3
  exact ⟨a, b, rfl, rfl, by omega⟩
section ROWS2
variable {xs : List Int32} {d : Nat} {S : x_M}
theorem c_holds {p m : Nat} {i n : Int32} (hp : x_tg p = 2) (hm : S p 3 = nI m) (hm4 : m ≤ 40) : x_Cr xs (d + 1) 25 [.ref p, .int i, .int n] S (x_b (x_span i n m)) := by
  refine x_Ci_of (by rw [ml_25]; rfl) (T_25_0 hp ?_)
  have e0 := nI_toInt (n := m) (by omega)
  have bi := x_ti_lt i
  have bn := x_ti_lt n
  split
  next h => exact x_rt_i (x_b_f (fun z => by unfold x_span at z; simp only [decide_eq_true_eq] at z; rw [x_lt0] at h; omega))
  next h =>
    rw [x_lt0] at h
    split
    next h2 => exact x_rt_i (x_b_f (fun z => by unfold x_span at z; simp only [decide_eq_true_eq] at z; rw [x_lt0] at h2; omega))
    next h2 =>
      rw [x_lt0] at h2
      have e1 : (S p 3 - n).toInt = m - n.toInt := by rw [hm, x_sub_i (by omega) (by omega), e0]
      split
      next h3 =>
        rw [Int32.lt_iff_toInt_lt, e1] at h3
        exact x_rt_i (x_b_f (fun z => by unfold x_span at z; simp only [decide_eq_true_eq] at z; omega))
      next h3 =>
        rw [Int32.lt_iff_toInt_lt, e1] at h3
        exact x_rt_i (x_b_t (by unfold x_span; simp only [decide_eq_true_eq]; omega))
theorem c_spanM {r m : Nat} {i n : Int32} (hr : r < 8) (hm : S 60 r = nI m) (hm4 : m ≤ 40) : x_Cr xs (d + 1) 106 [.ref 56, .int (nI r), .int i, .int n] S (x_b (x_span i n m)) := by
  refine x_Ci_of (by rw [ml_106]; rfl) (T_106_0 ?_)
  have e0 := nI_toInt (n := m) (by omega)
  have bi := x_ti_lt i
  have bn := x_ti_lt n
  split
  next h => exact x_rt_i (x_b_f (fun z => by unfold x_span at z; simp only [decide_eq_true_eq] at z; rw [x_lt0] at h; omega))
  next h =>
    rw [x_lt0] at h
    split
    next h2 => exact x_rt_i (x_b_f (fun z => by unfold x_span at z; simp only [decide_eq_true_eq] at z; rw [x_lt0] at h2; omega))
    next h2 =>
      rw [x_lt0] at h2
      refine ⟨x_ib_n hr (by decide), ?_⟩
      rw [nI_clamp (by omega), hm]
      have e1 : (i.toInt64 + n.toInt64).toInt = i.toInt + n.toInt := by
        rw [Int64.toInt_add, Int32.toInt_toInt64, Int32.toInt_toInt64, Int.bmod_def]
        split <;> omega
      have e2 : (nI m).toInt64.toInt = m := by rw [Int32.toInt_toInt64, e0]
      split
      next h3 =>
        have h3 := x_lc_gt.mp h3
        rw [Int64.lt_iff_toInt_lt, e1, e2] at h3
        exact x_rt_i (x_b_f (fun z => by unfold x_span at z; simp only [decide_eq_true_eq] at z; omega))
      next h3 =>
        have h3 : ¬ (nI m).toInt64 < i.toInt64 + n.toInt64 := fun z => h3 (x_lc_gt.mpr z)
        rw [Int64.lt_iff_toInt_lt, e1, e2] at h3
        exact x_rt_i (x_b_t (by unfold x_span; simp only [decide_eq_true_eq]; omega))
def x_nar (l v : Int32) : Int32 := if l = 0 then Int8.toInt32 (Int32.toInt8 v) else if l = 1 then Int16.toInt32 (Int32.toInt16 v) else v
theorem c_narrowed {p : Nat} {v : Int32} (hp : x_tg p = 2) : x_Cr xs (d + 1) 26 [.ref p, .int v] S (x_nar (S p 2) v) := by
  refine x_Ci_of (by rw [ml_26]; rfl) (T_26_0 hp ?_)
  unfold x_nar
  split
  next h => exact x_rt_i rfl
  next h =>
    split
    next h2 => exact x_rt_i rfl
    next h2 => exact x_rt_i rfl
/-- a finding told by both -/
theorem x_fnd {z1 z2 : Nat} {A : List Value} {a : Int32} (H : x_Inv S) (h1 : x_Ci xs d z1 (.ref 8 :: A) S (fun v S' => v = (-1000010) - a ∧ S' = x_up S 8 9 a)) (h2 : ∀ T : x_M, (∀ p k, ¬ (p = 8 ∧ k = 9) → T p k = S p k) → x_Ci xs d z2 (.ref 56 :: A) T (fun v S' => v = (-1000010) - a ∧ S' = x_up T 56 4 a)) : x_Op xs d z1 z2 A S := by
  refine x_Ci_weak h1 ?_
  rintro v S1 ⟨rfl, rfl⟩
  refine x_Ci_weak (h2 _ (fun p k hp => x_up_ne hp)) ?_
  rintro w S2 ⟨rfl, rfl⟩
  exact ⟨rfl, x_Inv_st H⟩
theorem c_set_bad {r i v : Int32} (h : ¬ (0 ≤ r ∧ r ≤ 7)) : x_Cr xs (d + 3) 47 [.ref 8, .int r, .int i, .int v] S (-1000001) := by
  refine x_Ci_of (by rw [ml_47]; rfl) (T_47_0 (x_rd c_isRow ?_))
  rw [if_pos (x_b_0.mpr (by simpa using h))]
  exact x_rt_i rfl
theorem c_set_badM {r i v : Int32} (h : ¬ (0 ≤ r ∧ r ≤ 7)) : x_Cr xs (d + 3) 104 [.ref 56, .int r, .int i, .int v] S (-1000001) := by
  refine x_Ci_of (by rw [ml_104]; rfl) (T_104_0 (x_rd c_isRowM ?_))
  rw [if_pos (x_b_0.mpr (by simpa using h))]
  exact x_rt_i rfl
theorem c_drop_bad {r : Int32} (h : ¬ (0 ≤ r ∧ r ≤ 7)) : x_Cr xs (d + 3) 49 [.ref 8, .int r] S (-1000001) := by
  refine x_Ci_of (by rw [ml_49]; rfl) (T_49_0 (x_rd c_isRow ?_))
  rw [if_pos (x_b_0.mpr (by simpa using h))]
  exact x_rt_i rfl
theorem c_drop_badM {r : Int32} (h : ¬ (0 ≤ r ∧ r ≤ 7)) : x_Cr xs (d + 3) 107 [.ref 56, .int r] S (-1000001) := by
  refine x_Ci_of (by rw [ml_107]; rfl) (T_107_0 (x_rd c_isRowM ?_))
  rw [if_pos (x_b_0.mpr (by simpa using h))]
  exact x_rt_i rfl
theorem x_l0 {l : Int32} (h : l = 0 ∨ l = 1 ∨ l = 2) : ¬ l = -1000000 := by rcases h with rfl | rfl | rfl <;> decide
theorem x_in_span {i : Int32} {m : Nat} (hm : m ≤ 40) : decide (0 ≤ i ∧ i ≤ nI m - 1) = x_span i 1 m := by
  have e0 := nI_toInt (n := m) (by omega)
  have e1 : (1 : Int32).toInt = 1 := by decide
  have e2 : (nI m - 1).toInt = m - 1 := by rw [x_sub_i (by omega) (by omega), e0, e1]
  have key : (0 ≤ i ∧ i ≤ nI m - 1) ↔ (0 ≤ i.toInt ∧ 0 ≤ (1 : Int32).toInt ∧ i.toInt + (1 : Int32).toInt ≤ m) := by
    rw [x_ge0, Int32.le_iff_toInt_le, e2, e1]
    omega
  unfold x_span
  exact decide_eq_decide.mpr key
set_option maxHeartbeats 1000000 in
theorem o_set {r i v : Int32} (H : x_Inv S) : x_Op xs (d + 3) 47 104 [.int r, .int i, .int v] S := by
  by_cases hb : 0 ≤ r ∧ r ≤ 7
  · obtain ⟨k, hk, rfl⟩ := x_row_n (r := r) (by simpa using hb)
    rcases H.1 k hk with ⟨a1, a2, a3, n, a4, a5, a6, a7⟩ | ⟨a1, a2⟩
    · by_cases hi : x_span i 1 n = true
      · obtain ⟨m, m1, rfl, hm1, hmn⟩ := x_span_n hi a4
        have hm1' : m1 = 1 := by
          have h5 := congrArg Int32.toInt hm1
          have e1 : (1 : Int32).toInt = 1 := by decide
          by_cases hz : m1 < 2 ^ 31
          · rw [nI_toInt hz, e1] at h5
            omega
          · omega
        subst hm1'
        have hx : x_Ci xs (d + 3) 47 [.ref 8, .int (nI k), .int (nI m), .int v] S (fun w S' => w = x_nar (S (30 + 2 * k) 2) v ∧ S' = x_up (x_up S (31 + 2 * k) m (x_nar (S (30 + 2 * k) 2) v)) 8 9 0) := by
          refine x_Ci_of (by rw [ml_47]; rfl) (T_47_0 (x_rd c_isRow ?_))
          rw [if_neg (x_b_ne (x_row_d hk))]
          refine ⟨x_ib_n hk (by decide), ?_⟩
          rw [nI_clamp (by omega), x_rr_9 hk, a1, if_neg (by decide), x_rr_w (x_tg_row hk), show 30 + 2 * k + 1 = 31 + 2 * k by omega]
          refine x_rd (c_holds (x_tg_row hk) a5 a4) ?_
          rw [if_neg (x_b_ne hi)]
          refine x_rd (c_narrowed (x_tg_row hk)) ⟨x_ib_n (by omega) (by decide), ?_⟩
          rw [nI_clamp (by omega)]
          rintro S1 rfl
          refine ⟨x_ib_n (by omega) (by decide), _, c_passed, ?_⟩
          rintro w S2 ⟨rfl, rfl⟩
          exact ⟨_, rfl, by rw [x_up_at], rfl⟩
        refine x_Ci_weak hx ?_
        rintro w S1 ⟨rfl, rfl⟩
        generalize hT : x_up (x_up S (31 + 2 * k) m (x_nar (S (30 + 2 * k) 2) v)) 8 9 0 = T
        have t59 : T 59 k = S 59 k := by rw [← hT, x_up_ne (by omega), x_up_ne (by omega)]
        have t60 : T 60 k = S 60 k := by rw [← hT, x_up_ne (by omega), x_up_ne (by omega)]
        have hy : x_Ci xs (d + 3) 104 [.ref 56, .int (nI k), .int (nI m), .int v] T (fun w S' => w = x_nar (S (30 + 2 * k) 2) v ∧ S' = x_up (x_up T 61 (40 * k + m) (x_nar (S (30 + 2 * k) 2) v)) 56 4 0) := by
          refine x_Ci_of (by rw [ml_104]; rfl) (T_104_0 (x_rd c_isRowM ?_))
          rw [if_neg (x_b_ne (x_row_d hk))]
          refine ⟨x_ib_n hk (by decide), ?_⟩
          rw [nI_clamp (by omega), t59, if_neg (by rw [a3]; exact x_l0 a2)]
          refine ⟨x_ib_n hk (by decide), ?_⟩
          refine x_rd c_in ?_
          rw [t60, a6, x_in0, x_in_span a4, if_neg (x_b_ne hi)]
          refine ⟨x_ib_n hk (by decide), ?_⟩
          rw [show (40 : Int32) * nI k + nI m = nI (40 * k + m) by rw [show (40 : Int32) = nI 40 from rfl, nI_mul, nI_add], nI_clamp (n := 40 * k + m) (by omega), t59, a3]
          have fin : ∀ (u : Int32), u = x_nar (S (30 + 2 * k) 2) v → (x_ib (nI (40 * k + m)) 320 ∧ ∀ S3 : x_M, S3 = x_up T 61 (40 * k + m) u → (x_ib (nI (40 * k + m)) 320 ∧ ∃ P4 : Int32 → x_M → Prop, x_Ci xs (d + 2) 103 [.ref 56, .int (S3 61 (40 * k + m))] S3 P4 ∧ ∀ (v4 : Int32) (S4 : x_M), P4 v4 S4 → ∃ w : Int32, some (Value.int v4) = some (.int w) ∧ w = x_nar (S (30 + 2 * k) 2) v ∧ S4 = x_up (x_up T 61 (40 * k + m) (x_nar (S (30 + 2 * k) 2) v)) 56 4 0)) := by
            rintro u rfl
            refine ⟨x_ib_n (by omega) (by decide), ?_⟩
            rintro S3 rfl
            refine ⟨x_ib_n (by omega) (by decide), _, c_give, ?_⟩
            rintro w S4 ⟨rfl, rfl⟩
            exact ⟨_, rfl, by rw [x_up_at], rfl⟩
          split
          next h0 => exact fin _ (by unfold x_nar; rw [if_pos h0])
          next h0 =>
            refine ⟨x_ib_n hk (by decide), ?_⟩
            split
            next h1 => exact fin _ (by unfold x_nar; rw [if_neg h0, if_pos h1])
            next h1 => exact fin _ (by unfold x_nar; rw [if_neg h0, if_neg h1])
        refine x_Ci_weak hy ?_
        rintro w S2 ⟨rfl, rfl⟩
        refine ⟨rfl, ?_⟩
        generalize hS : x_up (x_up T 61 (40 * k + m) (x_nar (S (30 + 2 * k) 2) v)) 56 4 0 = S'
        have key : ∀ p q, ¬ (p = 31 + 2 * k ∧ q = m) → ¬ (p = 8 ∧ q = 9) → ¬ (p = 56 ∧ q = 4) → ¬ (p = 61 ∧ q = 40 * k + m) → S' p q = S p q := by
          intro p q z1 z2 z3 z4
          rw [← hS, x_up_ne z3, x_up_ne z4, ← hT, x_up_ne z2, x_up_ne z1]
        obtain ⟨h1, h2, ⟨h3, h4, h5⟩, h6, h7, h8⟩ := H
        refine ⟨fun r hr => ?_, x_TI_c (fun p q hp => key p q (by omega) (by omega) (by omega) (by omega)) h2, ⟨x_GI_c (fun p q hp => key p q (by omega) (by omega) (by omega) (by omega)) h3, x_GI_c (fun p q hp => key p q (by omega) (by omega) (by omega) (by omega)) h4, x_GI_c (fun p q hp => key p q (by omega) (by omega) (by omega) (by omega)) h5⟩, x_UI_c (fun p q hp => key p q (by omega) (by omega) (by omega) (by omega)) h6, x_BI_c (fun p q hp => key p q (by omega) (by omega) (by omega) (by omega)) h7, ?_⟩
        · have h1r := h1 r hr
          unfold x_RI at h1r ⊢
          rw [key (30 + 2 * r) 1 (by omega) (by omega) (by omega) (by omega), key (30 + 2 * r) 2 (by omega) (by omega) (by omega) (by omega), key (30 + 2 * r) 3 (by omega) (by omega) (by omega) (by omega), key 59 r (by omega) (by omega) (by omega) (by omega), key 60 r (by omega) (by omega) (by omega) (by omega)]
          rcases h1r with ⟨b1, b2, b3, n2, b4, b5, b6, b7⟩ | h1r
          · refine Or.inl ⟨b1, b2, b3, n2, b4, b5, b6, fun i hi => ?_⟩
            by_cases hc : r = k ∧ i = m
            · obtain ⟨rfl, rfl⟩ := hc
              rw [← hS, x_up_ne (by omega), x_up_at, x_up_ne (by omega), x_up_ne (by omega), ← hT, x_up_ne (by omega), x_up_at]
            · rw [key 61 _ (by omega) (by omega) (by omega) (by omega), key (31 + 2 * r) _ (by omega) (by omega) (by omega) (by omega)]
              exact b7 i hi
          · exact Or.inr h1r
        · refine ⟨by rw [key 8 8 (by omega) (by omega) (by omega) (by omega), key 56 3 (by omega) (by omega) (by omega) (by omega)]; exact h8.1, ?_⟩
          rw [← hS, x_up_ne (by omega), x_up_ne (by omega), ← hT, x_up_at, x_up_at]
      · refine x_fnd (a := 2) H ?_ (fun T hT => ?_)
        · refine x_Ci_of (by rw [ml_47]; rfl) (T_47_0 (x_rd c_isRow ?_))
          rw [if_neg (x_b_ne (x_row_d hk))]
          refine ⟨x_ib_n hk (by decide), ?_⟩
          rw [nI_clamp (by omega), x_rr_9 hk, a1, if_neg (by decide)]
          refine x_rd (c_holds (x_tg_row hk) a5 a4) ?_
          rw [if_pos (x_b_0.mpr hi)]
          refine ⟨_, c_found, ?_⟩
          rintro w S1 ⟨rfl, rfl⟩
          exact ⟨_, rfl, rfl, rfl⟩
        · refine x_Ci_of (by rw [ml_104]; rfl) (T_104_0 (x_rd c_isRowM ?_))
          rw [if_neg (x_b_ne (x_row_d hk))]
          refine ⟨x_ib_n hk (by decide), ?_⟩
          rw [nI_clamp (by omega), hT 59 k (by omega), if_neg (by rw [a3]; exact x_l0 a2)]
          refine ⟨x_ib_n hk (by decide), ?_⟩
          refine x_rd c_in ?_
          rw [hT 60 k (by omega), a6, x_in0, x_in_span a4, if_pos (x_b_0.mpr hi)]
          refine ⟨_, c_find, ?_⟩
          rintro w S1 ⟨rfl, rfl⟩
          exact ⟨_, rfl, rfl, rfl⟩
    · refine x_fnd (a := 1) H ?_ (fun T hT => ?_)
      · refine x_Ci_of (by rw [ml_47]; rfl) (T_47_0 (x_rd c_isRow ?_))
        rw [if_neg (x_b_ne (x_row_d hk))]
        refine ⟨x_ib_n hk (by decide), ?_⟩
        rw [nI_clamp (by omega), x_rr_9 hk, a1, if_pos rfl]
        refine ⟨_, c_found, ?_⟩
        rintro w S1 ⟨rfl, rfl⟩
        exact ⟨_, rfl, rfl, rfl⟩
      · refine x_Ci_of (by rw [ml_104]; rfl) (T_104_0 (x_rd c_isRowM ?_))
        rw [if_neg (x_b_ne (x_row_d hk))]
        refine ⟨x_ib_n hk (by decide), ?_⟩
        rw [nI_clamp (by omega), hT 59 k (by omega), a2, if_pos rfl]
        refine ⟨_, c_find, ?_⟩
        rintro w S1 ⟨rfl, rfl⟩
        exact ⟨_, rfl, rfl, rfl⟩
  · exact x_Op_rd H (c_set_bad hb) (c_set_badM hb)
theorem o_drop {r : Int32} (H : x_Inv S) : x_Op xs (d + 3) 49 107 [.int r] S := by
  by_cases hb : 0 ≤ r ∧ r ≤ 7
  · obtain ⟨k, hk, rfl⟩ := x_row_n (r := r) (by simpa using hb)
    rcases H.1 k hk with ⟨a1, a2, a3, n, a4, a5, a6, a7⟩ | ⟨a1, a2⟩
    · have hx : x_Ci xs (d + 3) 49 [.ref 8, .int (nI k)] S (fun w S' => w = nI n ∧ S' = x_up (x_up S (30 + 2 * k) 1 0) 8 9 0) := by
        refine x_Ci_of (by rw [ml_49]; rfl) (T_49_0 (x_rd c_isRow ?_))
        rw [if_neg (x_b_ne (x_row_d hk))]
        refine ⟨x_ib_n hk (by decide), ?_⟩
        rw [nI_clamp (by omega), x_rr_9 hk, a1, if_neg (by decide)]
        rintro S1 rfl
        refine ⟨_, c_passed, ?_⟩
        rintro w S2 ⟨rfl, rfl⟩
        exact ⟨_, rfl, by rw [x_up_ne (by omega), a5], rfl⟩
      refine x_Ci_weak hx ?_
      rintro w S1 ⟨rfl, rfl⟩
      generalize hT : x_up (x_up S (30 + 2 * k) 1 0) 8 9 0 = T
      have t59 : T 59 k = S 59 k := by rw [← hT, x_up_ne (by omega), x_up_ne (by omega)]
      have t60 : T 60 k = S 60 k := by rw [← hT, x_up_ne (by omega), x_up_ne (by omega)]
      have hy : x_Ci xs (d + 3) 107 [.ref 56, .int (nI k)] T (fun w S' => w = nI n ∧ S' = x_up (x_up T 59 k (-1000000)) 56 4 0) := by
        refine x_Ci_of (by rw [ml_107]; rfl) (T_107_0 (x_rd c_isRowM ?_))
        rw [if_neg (x_b_ne (x_row_d hk))]
        refine ⟨x_ib_n hk (by decide), ?_⟩
        rw [nI_clamp (by omega), t59, if_neg (by rw [a3]; exact x_l0 a2)]
        refine ⟨x_ib_n hk (by decide), ?_⟩
        rintro S1 rfl
        refine ⟨x_ib_n hk (by decide), _, c_give, ?_⟩
        rintro w S2 ⟨rfl, rfl⟩
        exact ⟨_, rfl, by rw [x_up_ne (by omega), t60, a6], rfl⟩
      refine x_Ci_weak hy ?_
      rintro w S2 ⟨rfl, rfl⟩
      refine ⟨rfl, ?_⟩
      generalize hS : x_up (x_up T 59 k (-1000000)) 56 4 0 = S'
      have key : ∀ p q, ¬ (p = 30 + 2 * k ∧ q = 1) → ¬ (p = 8 ∧ q = 9) → ¬ (p = 56 ∧ q = 4) → ¬ (p = 59 ∧ q = k) → S' p q = S p q := by
        intro p q z1 z2 z3 z4
        rw [← hS, x_up_ne z3, x_up_ne z4, ← hT, x_up_ne z2, x_up_ne z1]
      obtain ⟨h1, h2, ⟨h3, h4, h5⟩, h6, h7, h8⟩ := H
      refine ⟨fun r hr => ?_, x_TI_c (fun p q hp => key p q (by omega) (by omega) (by omega) (by omega)) h2, ⟨x_GI_c (fun p q hp => key p q (by omega) (by omega) (by omega) (by omega)) h3, x_GI_c (fun p q hp => key p q (by omega) (by omega) (by omega) (by omega)) h4, x_GI_c (fun p q hp => key p q (by omega) (by omega) (by omega) (by omega)) h5⟩, x_UI_c (fun p q hp => key p q (by omega) (by omega) (by omega) (by omega)) h6, x_BI_c (fun p q hp => key p q (by omega) (by omega) (by omega) (by omega)) h7, ?_⟩
      · by_cases hrk : r = k
        · subst hrk
          refine Or.inr ⟨?_, ?_⟩
          · rw [← hS, x_up_ne (by omega), x_up_ne (by omega), ← hT, x_up_ne (by omega), x_up_at]
          · rw [← hS, x_up_ne (by omega), x_up_at]
        · have h1r := h1 r hr
          unfold x_RI at h1r ⊢
          rw [key (30 + 2 * r) 1 (by omega) (by omega) (by omega) (by omega), key (30 + 2 * r) 2 (by omega) (by omega) (by omega) (by omega), key (30 + 2 * r) 3 (by omega) (by omega) (by omega) (by omega), key 59 r (by omega) (by omega) (by omega) (by omega), key 60 r (by omega) (by omega) (by omega) (by omega)]
          rcases h1r with ⟨b1, b2, b3, n2, b4, b5, b6, b7⟩ | h1r
          · exact Or.inl ⟨b1, b2, b3, n2, b4, b5, b6, fun i hi => by rw [key 61 _ (by omega) (by omega) (by omega) (by omega), key (31 + 2 * r) _ (by omega) (by omega) (by omega) (by omega)]; exact b7 i hi⟩
          · exact Or.inr h1r
      · refine ⟨by rw [key 8 8 (by omega) (by omega) (by omega) (by omega), key 56 3 (by omega) (by omega) (by omega) (by omega)]; exact h8.1, ?_⟩
        rw [← hS, x_up_ne (by omega), x_up_ne (by omega), ← hT, x_up_at, x_up_at]
    · refine x_fnd (a := 1) H ?_ (fun T hT => ?_)
      · refine x_Ci_of (by rw [ml_49]; rfl) (T_49_0 (x_rd c_isRow ?_))
        rw [if_neg (x_b_ne (x_row_d hk))]
        refine ⟨x_ib_n hk (by decide), ?_⟩
        rw [nI_clamp (by omega), x_rr_9 hk, a1, if_pos rfl]
        refine ⟨_, c_found, ?_⟩
        rintro w S1 ⟨rfl, rfl⟩
        exact ⟨_, rfl, rfl, rfl⟩
      · refine x_Ci_of (by rw [ml_107]; rfl) (T_107_0 (x_rd c_isRowM ?_))
        rw [if_neg (x_b_ne (x_row_d hk))]
        refine ⟨x_ib_n hk (by decide), ?_⟩
        rw [nI_clamp (by omega), hT 59 k (by omega), a2, if_pos rfl]
        refine ⟨_, c_find, ?_⟩
        rintro w S1 ⟨rfl, rfl⟩
        exact ⟨_, rfl, rfl, rfl⟩
  · exact x_Op_rd H (c_drop_bad hb) (c_drop_badM hb)
end ROWS2
