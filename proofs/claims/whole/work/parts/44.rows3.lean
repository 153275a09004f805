section ROWS3
variable {xs : List Int32} {d : Nat} {S : x_M}
/-- what stays, when only rows change -/
theorem x_Inv_R {S' : x_M} (H : x_Inv S) (h : ∀ p k, ¬ (30 ≤ p ∧ p ≤ 45) → ¬ (59 ≤ p ∧ p ≤ 61) → ¬ (p = 8 ∧ k = 9) → ¬ (p = 56 ∧ k = 4) → S' p k = S p k) (hs : S' 8 9 = S' 56 4) (hr : ∀ r, r < 8 → x_RI S' r) : x_Inv S' := by
  obtain ⟨h1, h2, ⟨h3, h4, h5⟩, h6, h7, h8⟩ := H
  refine ⟨hr, x_TI_c (fun p q hp => h p q (by omega) (by omega) (by omega) (by omega)) h2, ⟨x_GI_c (fun p q hp => h p q (by omega) (by omega) (by omega) (by omega)) h3, x_GI_c (fun p q hp => h p q (by omega) (by omega) (by omega) (by omega)) h4, x_GI_c (fun p q hp => h p q (by omega) (by omega) (by omega) (by omega)) h5⟩, x_UI_c (fun p q hp => h p q (by omega) (by omega) (by omega) (by omega)) h6, x_BI_c (fun p q hp => h p q (by omega) (by omega) (by omega) (by omega)) h7, ?_, hs⟩
  rw [h 8 8 (by omega) (by omega) (by omega) (by omega), h 56 3 (by omega) (by omega) (by omega) (by omega)]
  exact h8.1
theorem x_cp_0 {p sp q dp : Nat} : x_cp S p sp q dp 0 = S := by
  funext r j
  exact x_cp_ne (by omega)
/-- the reference's copying, one after another -/
theorem c_copyM {a b i j n : Nat} (ha : a < 8) (hb : b < 8) (hi : i + n ≤ 40) (hj : j + n ≤ 40) : x_E xs (d + 2) 105 98 [.ref 56, .int (nI a), .int (nI i), .int (nI b), .int (nI j), .int (nI n), .int 0, .null] [] S (fun r S' => ∃ v : Int32, r = some (.int v) ∧ v = nI n ∧ S' = x_up (x_cp S 61 (40 * a + i) 61 (40 * b + j) n) 56 4 0) := by
  have e40 : ∀ u v w : Nat, (40 : Int32) * nI u + nI v + nI w = nI (40 * u + v + w) := fun u v w => by rw [show (40 : Int32) = nI 40 from rfl, nI_mul, nI_add, nI_add]
  by_cases hc : a = b ∧ i < j
  · obtain ⟨hab, hij⟩ := hc
    subst hab
    have loop : ∀ m k, k + m = n → ∀ a7 : Value, x_E xs (d + 2) 105 98 [.ref 56, .int (nI a), .int (nI i), .int (nI a), .int (nI j), .int (nI n), .int (nI k), a7] [] (x_cp S 61 (40 * a + i + m) 61 (40 * a + j + m) k) (fun r S' => ∃ v : Int32, r = some (.int v) ∧ v = nI n ∧ S' = x_up (x_cp S 61 (40 * a + i) 61 (40 * a + j) n) 56 4 0) := by
      intro m
      induction m with
      | zero =>
        intro k hk a7
        have hkn : k = n := by omega
        subst hkn
        refine T_105_98 ?_
        rw [if_pos (Int32.le_refl _)]
        refine ⟨_, c_give, ?_⟩
        rintro w S1 ⟨rfl, rfl⟩
        exact ⟨_, rfl, rfl, rfl⟩
      | succ m ih =>
        intro k hk a7
        refine T_105_98 ?_
        rw [if_neg (nI_ge (a := k) (b := n) (by omega) (by omega)), if_pos rfl, if_neg (nI_ge (a := i) (b := j) (by omega) (by omega)), show nI n - 1 - nI k = nI m by rw [show (1 : Int32) = nI 1 from rfl, nI_sub (by omega), nI_sub (by omega)]; congr 1; omega]
        refine T_105_128 ?_
        rw [e40, e40, nI_clamp (n := 40 * a + i + m) (by omega), nI_clamp (n := 40 * a + j + m) (by omega)]
        refine ⟨x_ib_n (by omega) (by decide), x_ib_n (by omega) (by decide), ?_⟩
        intro S1 hS1
        have e : S1 = x_cp S 61 (40 * a + i + m) 61 (40 * a + j + m) (k + 1) := by
          rw [hS1]
          funext p q
          by_cases h1 : p = 61 ∧ q = 40 * a + j + m
          · rw [x_up_eq h1, x_cp_ne (by omega), x_cp_eq (by omega), h1.2]
            congr 1
            omega
          · rw [x_up_ne h1]
            by_cases h2 : p = 61 ∧ 40 * a + j + (m + 1) ≤ q ∧ q < 40 * a + j + (m + 1) + k
            · rw [x_cp_eq h2, x_cp_eq (by omega)]
              congr 1
              omega
            · rw [x_cp_ne h2, x_cp_ne (by omega)]
        rw [e, ← nI_succ]
        exact ih (k + 1) (by omega) _
    have h0 := loop n 0 (by omega) .null
    rw [x_cp_0] at h0
    exact h0
  · have loop : ∀ m k, k + m = n → ∀ a7 : Value, x_E xs (d + 2) 105 98 [.ref 56, .int (nI a), .int (nI i), .int (nI b), .int (nI j), .int (nI n), .int (nI k), a7] [] (x_cp S 61 (40 * a + i) 61 (40 * b + j) k) (fun r S' => ∃ v : Int32, r = some (.int v) ∧ v = nI n ∧ S' = x_up (x_cp S 61 (40 * a + i) 61 (40 * b + j) n) 56 4 0) := by
      intro m
      induction m with
      | zero =>
        intro k hk a7
        have hkn : k = n := by omega
        subst hkn
        refine T_105_98 ?_
        rw [if_pos (Int32.le_refl _)]
        refine ⟨_, c_give, ?_⟩
        rintro w S1 ⟨rfl, rfl⟩
        exact ⟨_, rfl, rfl, rfl⟩
      | succ m ih =>
        intro k hk a7
        have st : x_E xs (d + 2) 105 128 [.ref 56, .int (nI a), .int (nI i), .int (nI b), .int (nI j), .int (nI n), .int (nI k), a7] [.int (nI k)] (x_cp S 61 (40 * a + i) 61 (40 * b + j) k) (fun r S' => ∃ v : Int32, r = some (.int v) ∧ v = nI n ∧ S' = x_up (x_cp S 61 (40 * a + i) 61 (40 * b + j) n) 56 4 0) := by
          refine T_105_128 ?_
          rw [e40, e40, nI_clamp (n := 40 * a + i + k) (by omega), nI_clamp (n := 40 * b + j + k) (by omega)]
          refine ⟨x_ib_n (by omega) (by decide), x_ib_n (by omega) (by decide), ?_⟩
          intro S1 hS1
          have e : S1 = x_cp S 61 (40 * a + i) 61 (40 * b + j) (k + 1) := by
            rw [hS1]
            funext p q
            by_cases h1 : p = 61 ∧ q = 40 * b + j + k
            · rw [x_up_eq h1, x_cp_ne (by omega), x_cp_eq (by omega), h1.2]
              congr 1
              omega
            · rw [x_up_ne h1]
              by_cases h2 : p = 61 ∧ 40 * b + j ≤ q ∧ q < 40 * b + j + k
              · rw [x_cp_eq h2, x_cp_eq (by omega)]
              · rw [x_cp_ne h2, x_cp_ne (by omega)]
          rw [e, ← nI_succ]
          exact ih (k + 1) (by omega) _
        refine T_105_98 ?_
        rw [if_neg (nI_ge (a := k) (b := n) (by omega) (by omega))]
        split
        next h1 =>
          rw [nI_eq (by omega) (by omega)] at h1
          rw [if_pos (nI_le (a := j) (b := i) (by omega) (by omega))]
          exact st
        next h1 => exact st
    have h0 := loop n 0 (by omega) .null
    rw [x_cp_0] at h0
    exact h0
theorem x_row_b {r : Int32} (h : ¬ (0 ≤ r ∧ r ≤ 7)) : x_b (decide (0 ≤ r ∧ r ≤ 7)) = 0 := x_b_0.mpr (by simpa using h)
set_option maxHeartbeats 1000000 in
theorem o_copy {r i t j n : Int32} (H : x_Inv S) : x_Op xs (d + 3) 48 105 [.int r, .int i, .int t, .int j, .int n] S := by
  by_cases hb : 0 ≤ r ∧ r ≤ 7
  case neg =>
    refine x_Op_rd (v := -1000001) H ?_ ?_
    · refine x_Ci_of (by rw [ml_48]; rfl) (T_48_0 (x_rd c_isRow ?_))
      rw [if_pos (x_row_b hb)]
      exact x_rt_i rfl
    · refine x_Ci_of (by rw [ml_105]; rfl) (T_105_0 (x_rd c_isRowM ?_))
      rw [if_pos (x_row_b hb)]
      exact x_rt_i rfl
  case pos =>
  obtain ⟨a, ha, rfl⟩ := x_row_n (r := r) (by simpa using hb)
  by_cases hbt : 0 ≤ t ∧ t ≤ 7
  case neg =>
    refine x_Op_rd (v := -1000001) H ?_ ?_
    · refine x_Ci_of (by rw [ml_48]; rfl) (T_48_0 (x_rd c_isRow ?_))
      rw [if_neg (x_b_ne (x_row_d ha))]
      refine x_rd c_isRow ?_
      rw [if_pos (x_row_b hbt)]
      exact x_rt_i rfl
    · refine x_Ci_of (by rw [ml_105]; rfl) (T_105_0 (x_rd c_isRowM ?_))
      rw [if_neg (x_b_ne (x_row_d ha))]
      refine x_rd c_isRowM ?_
      rw [if_pos (x_row_b hbt)]
      exact x_rt_i rfl
  case pos =>
  obtain ⟨b, hb, rfl⟩ := x_row_n (r := t) (by simpa using hbt)
  have pre : ∀ Q : Option Value → x_M → Prop, ((if S (30 + 2 * a) 1 = 0 then (∃ P5 : Int32 → x_M → Prop, x_Ci xs (d + 2) 45 [.ref 8, .int 1] S P5 ∧ ∀ (v5 : Int32) (S5 : x_M), P5 v5 S5 → Q (some (.int v5)) S5) else if S (30 + 2 * b) 1 = 0 then (∃ P5 : Int32 → x_M → Prop, x_Ci xs (d + 2) 45 [.ref 8, .int 1] S P5 ∧ ∀ (v5 : Int32) (S5 : x_M), P5 v5 S5 → Q (some (.int v5)) S5) else x_E xs (d + 3) 48 0 [.ref 8, .int (nI a), .int i, .int (nI b), .int j, .int n, .null, .null] [] S Q)) → x_E xs (d + 3) 48 0 [.ref 8, .int (nI a), .int i, .int (nI b), .int j, .int n, .null, .null] [] S Q := by
    intro Q hQ
    by_cases h1 : S (30 + 2 * a) 1 = 0
    · rw [if_pos h1] at hQ
      refine T_48_0 (x_rd c_isRow ?_)
      rw [if_neg (x_b_ne (x_row_d ha))]
      refine x_rd c_isRow ?_
      rw [if_neg (x_b_ne (x_row_d hb)), nI_clamp (n := a) (by omega), nI_clamp (n := b) (by omega), x_rr_9 ha, x_rr_9 hb]
      refine ⟨x_ib_n ha (by decide), x_ib_n hb (by decide), ?_⟩
      rw [if_pos h1]
      exact hQ
    · rw [if_neg h1] at hQ
      by_cases h2 : S (30 + 2 * b) 1 = 0
      · rw [if_pos h2] at hQ
        refine T_48_0 (x_rd c_isRow ?_)
        rw [if_neg (x_b_ne (x_row_d ha))]
        refine x_rd c_isRow ?_
        rw [if_neg (x_b_ne (x_row_d hb)), nI_clamp (n := a) (by omega), nI_clamp (n := b) (by omega), x_rr_9 ha, x_rr_9 hb]
        refine ⟨x_ib_n ha (by decide), x_ib_n hb (by decide), ?_⟩
        rw [if_neg h1, if_pos h2]
        exact hQ
      · rw [if_neg h2] at hQ
        exact hQ
  have f1 : (S (30 + 2 * a) 1 = 0 ∨ S (30 + 2 * b) 1 = 0) → (S 59 a = -1000000 ∨ S 59 b = -1000000) → x_Op xs (d + 3) 48 105 [.int (nI a), .int i, .int (nI b), .int j, .int n] S := by
    intro z1 z2
    refine x_fnd (a := 1) H ?_ (fun T hT => ?_)
    · refine x_Ci_of (by rw [ml_48]; rfl) (pre _ ?_)
      have done : ∃ P5 : Int32 → x_M → Prop, x_Ci xs (d + 2) 45 [.ref 8, .int 1] S P5 ∧ ∀ (v5 : Int32) (S5 : x_M), P5 v5 S5 → ∃ v : Int32, some (Value.int v5) = some (.int v) ∧ v = (-1000010) - 1 ∧ S5 = x_up S 8 9 1 := by
        refine ⟨_, c_found, ?_⟩
        rintro w S1 ⟨rfl, rfl⟩
        exact ⟨_, rfl, rfl, rfl⟩
      by_cases h1 : S (30 + 2 * a) 1 = 0
      · rw [if_pos h1]; exact done
      · rw [if_neg h1, if_pos (by rcases z1 with z1 | z1; exact absurd z1 h1; exact z1)]; exact done
    · refine x_Ci_of (by rw [ml_105]; rfl) (T_105_0 (x_rd c_isRowM ?_))
      rw [if_neg (x_b_ne (x_row_d ha))]
      refine x_rd c_isRowM ?_
      rw [if_neg (x_b_ne (x_row_d hb)), nI_clamp (n := a) (by omega), nI_clamp (n := b) (by omega), hT 59 a (by omega), hT 59 b (by omega)]
      have done : ∃ P5 : Int32 → x_M → Prop, x_Ci xs (d + 2) 102 [.ref 56, .int 1] T P5 ∧ ∀ (v5 : Int32) (S5 : x_M), P5 v5 S5 → ∃ v : Int32, some (Value.int v5) = some (.int v) ∧ v = (-1000010) - 1 ∧ S5 = x_up T 56 4 1 := by
        refine ⟨_, c_find, ?_⟩
        rintro w S1 ⟨rfl, rfl⟩
        exact ⟨_, rfl, rfl, rfl⟩
      refine ⟨x_ib_n ha (by decide), ?_⟩
      by_cases h1 : S 59 a = -1000000
      · rw [if_pos h1]; exact done
      · rw [if_neg h1, if_pos (by rcases z2 with z2 | z2; exact absurd z2 h1; exact z2)]
        exact ⟨x_ib_n hb (by decide), done⟩
  rcases H.1 a ha with ⟨a1, a2, a3, m, a4, a5, a6, a7⟩ | ⟨a1, a2⟩
  case inr => exact f1 (Or.inl a1) (Or.inl a2)
  case inl =>
  rcases H.1 b hb with ⟨b1, b2, b3, o, b4, b5, b6, b7⟩ | ⟨b1, b2⟩
  case inr => exact f1 (Or.inr b1) (Or.inr b2)
  case inl =>
  by_cases hl : S (30 + 2 * a) 2 = S (30 + 2 * b) 2
  case neg =>
    refine x_fnd (a := 5) H ?_ (fun T hT => ?_)
    · refine x_Ci_of (by rw [ml_48]; rfl) (T_48_0 (x_rd c_isRow ?_))
      rw [if_neg (x_b_ne (x_row_d ha))]
      refine x_rd c_isRow ?_
      rw [if_neg (x_b_ne (x_row_d hb)), nI_clamp (n := a) (by omega), nI_clamp (n := b) (by omega), x_rr_9 ha, x_rr_9 hb, a1, b1]
      refine ⟨x_ib_n ha (by decide), x_ib_n hb (by decide), ?_⟩
      rw [if_neg (by decide), if_neg (by decide), if_neg hl]
      refine ⟨_, c_found, ?_⟩
      rintro w S1 ⟨rfl, rfl⟩
      exact ⟨_, rfl, rfl, rfl⟩
    · refine x_Ci_of (by rw [ml_105]; rfl) (T_105_0 (x_rd c_isRowM ?_))
      rw [if_neg (x_b_ne (x_row_d ha))]
      refine x_rd c_isRowM ?_
      rw [if_neg (x_b_ne (x_row_d hb)), nI_clamp (n := a) (by omega), nI_clamp (n := b) (by omega), hT 59 a (by omega), hT 59 b (by omega), a3, b3, if_neg (x_l0 a2), if_neg (x_l0 b2), if_neg hl]
      refine ⟨x_ib_n ha (by decide), x_ib_n hb (by decide), x_ib_n ha (by decide), x_ib_n hb (by decide), _, c_find, ?_⟩
      rintro w S1 ⟨rfl, rfl⟩
      exact ⟨_, rfl, rfl, rfl⟩
  case pos =>
  have preC : ∀ Q : Option Value → x_M → Prop, (∃ P6 : Int32 → x_M → Prop, x_Ci xs (d + 2) 25 [.ref (30 + 2 * a), .int i, .int n] S P6 ∧ ∀ (v6 : Int32) (S6 : x_M), P6 v6 S6 → (if v6 = 0 then (∃ P7 : Int32 → x_M → Prop, x_Ci xs (d + 2) 45 [.ref 8, .int 2] S6 P7 ∧ ∀ (v7 : Int32) (S7 : x_M), P7 v7 S7 → (Q (some (.int v7)) S7)) else (∃ P8 : Int32 → x_M → Prop, x_Ci xs (d + 2) 25 [.ref (30 + 2 * b), .int j, .int n] S6 P8 ∧ ∀ (v8 : Int32) (S8 : x_M), P8 v8 S8 → (if v8 = 0 then (∃ P11 : Int32 → x_M → Prop, x_Ci xs (d + 2) 45 [.ref 8, .int 2] S8 P11 ∧ ∀ (v11 : Int32) (S11 : x_M), P11 v11 S11 → (Q (some (.int v11)) S11)) else ((¬ i < 0 ∧ ¬ j < 0 ∧ ¬ n < 0 ∧ i.toNatClampNeg + n.toNatClampNeg ≤ 40 ∧ j.toNatClampNeg + n.toNatClampNeg ≤ 40) ∧ (∀ S9 : x_M, S9 = x_cp S8 (31 + 2 * a) i.toNatClampNeg (31 + 2 * b) j.toNatClampNeg n.toNatClampNeg → (∃ P10 : Int32 → x_M → Prop, x_Ci xs (d + 2) 46 [.ref 8, .int n] S9 P10 ∧ ∀ (v10 : Int32) (S10 : x_M), P10 v10 S10 → (Q (some (.int v10)) S10)))))))) → x_E xs (d + 3) 48 0 [.ref 8, .int (nI a), .int i, .int (nI b), .int j, .int n, .null, .null] [] S Q := by
    intro Q hQ
    refine T_48_0 (x_rd c_isRow ?_)
    rw [if_neg (x_b_ne (x_row_d ha))]
    refine x_rd c_isRow ?_
    rw [if_neg (x_b_ne (x_row_d hb)), nI_clamp (n := a) (by omega), nI_clamp (n := b) (by omega), x_rr_9 ha, x_rr_9 hb, a1, b1, x_rr_w (x_tg_row ha), x_rr_w (x_tg_row hb), show 30 + 2 * a + 1 = 31 + 2 * a by omega, show 30 + 2 * b + 1 = 31 + 2 * b by omega]
    refine ⟨x_ib_n ha (by decide), x_ib_n hb (by decide), ?_⟩
    rw [if_neg (by decide), if_neg (by decide), if_pos hl]
    exact hQ
  have preM : ∀ (T : x_M) (Q : Option Value → x_M → Prop), T 59 a = S 59 a → T 59 b = S 59 b → (∃ P4 : Int32 → x_M → Prop, x_Ci xs (d + 2) 106 [.ref 56, .int (nI a), .int i, .int n] T P4 ∧ ∀ (v4 : Int32) (S4 : x_M), P4 v4 S4 → (if v4 = 0 then (∃ P5 : Int32 → x_M → Prop, x_Ci xs (d + 2) 102 [.ref 56, .int 2] S4 P5 ∧ ∀ (v5 : Int32) (S5 : x_M), P5 v5 S5 → (Q (some (.int v5)) S5)) else (∃ P6 : Int32 → x_M → Prop, x_Ci xs (d + 2) 106 [.ref 56, .int (nI b), .int j, .int n] S4 P6 ∧ ∀ (v6 : Int32) (S6 : x_M), P6 v6 S6 → (if v6 = 0 then (∃ P7 : Int32 → x_M → Prop, x_Ci xs (d + 2) 102 [.ref 56, .int 2] S6 P7 ∧ ∀ (v7 : Int32) (S7 : x_M), P7 v7 S7 → (Q (some (.int v7)) S7)) else (x_E xs (d + 3) 105 98 [.ref 56, .int (nI a), .int i, .int (nI b), .int j, .int n, .int 0, .null] [] S6 Q))))) → x_E xs (d + 3) 105 0 [.ref 56, .int (nI a), .int i, .int (nI b), .int j, .int n, .null, .null] [] T Q := by
    intro T Q t1 t2 hQ
    refine T_105_0 (x_rd c_isRowM ?_)
    rw [if_neg (x_b_ne (x_row_d ha))]
    refine x_rd c_isRowM ?_
    rw [if_neg (x_b_ne (x_row_d hb)), nI_clamp (n := a) (by omega), nI_clamp (n := b) (by omega), t1, t2, a3, b3, if_neg (x_l0 a2), if_neg (x_l0 b2), if_pos hl]
    exact ⟨x_ib_n ha (by decide), x_ib_n hb (by decide), x_ib_n ha (by decide), x_ib_n hb (by decide), hQ⟩
  by_cases hi : x_span i n m = true
  case neg =>
    refine x_fnd (a := 2) H ?_ (fun T hT => ?_)
    · refine x_Ci_of (by rw [ml_48]; rfl) (preC _ (x_rd (c_holds (x_tg_row ha) a5 a4) ?_))
      rw [if_pos (x_b_0.mpr hi)]
      refine ⟨_, c_found, ?_⟩
      rintro w S1 ⟨rfl, rfl⟩
      exact ⟨_, rfl, rfl, rfl⟩
    · refine x_Ci_of (by rw [ml_105]; rfl) (preM T _ (hT 59 a (by omega)) (hT 59 b (by omega)) (x_rd (c_spanM ha (by rw [hT 60 a (by omega)]; exact a6) a4) ?_))
      rw [if_pos (x_b_0.mpr hi)]
      refine ⟨_, c_find, ?_⟩
      rintro w S1 ⟨rfl, rfl⟩
      exact ⟨_, rfl, rfl, rfl⟩
  case pos =>
  by_cases hj : x_span j n o = true
  case neg =>
    refine x_fnd (a := 2) H ?_ (fun T hT => ?_)
    · refine x_Ci_of (by rw [ml_48]; rfl) (preC _ (x_rd (c_holds (x_tg_row ha) a5 a4) ?_))
      rw [if_neg (x_b_ne hi)]
      refine x_rd (c_holds (x_tg_row hb) b5 b4) ?_
      rw [if_pos (x_b_0.mpr hj)]
      refine ⟨_, c_found, ?_⟩
      rintro w S1 ⟨rfl, rfl⟩
      exact ⟨_, rfl, rfl, rfl⟩
    · refine x_Ci_of (by rw [ml_105]; rfl) (preM T _ (hT 59 a (by omega)) (hT 59 b (by omega)) (x_rd (c_spanM ha (by rw [hT 60 a (by omega)]; exact a6) a4) ?_))
      rw [if_neg (x_b_ne hi)]
      refine x_rd (c_spanM hb (by rw [hT 60 b (by omega)]; exact b6) b4) ?_
      rw [if_pos (x_b_0.mpr hj)]
      refine ⟨_, c_find, ?_⟩
      rintro w S1 ⟨rfl, rfl⟩
      exact ⟨_, rfl, rfl, rfl⟩
  case pos =>
  have hi0 := hi
  have hj0 := hj
  obtain ⟨ni, nn, rfl, rfl, s1⟩ := x_span_n hi a4
  obtain ⟨nj, n2, rfl, hn2, s2⟩ := x_span_n hj b4
  have hn2' : n2 = nn := ((nI_eq (by omega) (by omega)).mp hn2).symm
  subst hn2'
  have hx : x_Ci xs (d + 3) 48 [.ref 8, .int (nI a), .int (nI ni), .int (nI b), .int (nI nj), .int (nI n2)] S (fun w S' => w = nI n2 ∧ S' = x_up (x_cp S (31 + 2 * a) ni (31 + 2 * b) nj n2) 8 9 0) := by
    refine x_Ci_of (by rw [ml_48]; rfl) (preC _ (x_rd (c_holds (x_tg_row ha) a5 a4) ?_))
    rw [if_neg (x_b_ne hi0)]
    refine x_rd (c_holds (x_tg_row hb) b5 b4) ?_
    rw [if_neg (x_b_ne hj0), nI_clamp (n := ni) (by omega), nI_clamp (n := nj) (by omega), nI_clamp (n := n2) (by omega)]
    refine ⟨⟨nI_pos (by omega), nI_pos (by omega), nI_pos (by omega), by omega, by omega⟩, ?_⟩
    rintro S9 rfl
    refine ⟨_, c_passed, ?_⟩
    rintro w S1 ⟨rfl, rfl⟩
    exact ⟨_, rfl, rfl, rfl⟩
  refine x_Ci_weak hx ?_
  rintro w T ⟨rfl, hT⟩
  have t61 : ∀ p, 59 ≤ p → p ≤ 61 → T p = S p := fun p z1 z2 => by funext k; rw [hT, x_up_ne (by omega), x_cp_ne (by omega)]
  have hz : x_Ci xs (d + 3) 105 [.ref 56, .int (nI a), .int (nI ni), .int (nI b), .int (nI nj), .int (nI n2)] T (fun w S' => w = nI n2 ∧ S' = x_up (x_cp T 61 (40 * a + ni) 61 (40 * b + nj) n2) 56 4 0) := by
    refine x_Ci_of (by rw [ml_105]; rfl) (preM T _ (by rw [t61 59 (by omega) (by omega)]) (by rw [t61 59 (by omega) (by omega)]) (x_rd (c_spanM ha (by rw [t61 60 (by omega) (by omega)]; exact a6) a4) ?_))
    rw [if_neg (x_b_ne hi0)]
    refine x_rd (c_spanM hb (by rw [t61 60 (by omega) (by omega)]; exact b6) b4) ?_
    rw [if_neg (x_b_ne hj0)]
    exact c_copyM ha hb (by omega) (by omega)
  refine x_Ci_weak hz ?_
  rintro w S2 ⟨rfl, hS2⟩
  refine ⟨rfl, x_Inv_R H (fun p k z1 z2 z3 z4 => by rw [hS2, x_up_ne z4, x_cp_ne (by omega), hT, x_up_ne z3, x_cp_ne (by omega)]) ?_ ?_⟩
  · rw [hS2, x_up_at, x_up_ne (by omega), x_cp_ne (by omega), hT, x_up_at]
  · intro r hr
    have key : ∀ p k, p ≠ 31 + 2 * b → p ≠ 61 → ¬ (p = 8 ∧ k = 9) → ¬ (p = 56 ∧ k = 4) → S2 p k = S p k := fun p k z1 z2 z3 z4 => by rw [hS2, x_up_ne z4, x_cp_ne (by omega), hT, x_up_ne z3, x_cp_ne (by omega)]
    have hrr := H.1 r hr
    unfold x_RI at hrr ⊢
    rw [key (30 + 2 * r) 1 (by omega) (by omega) (by omega) (by omega), key (30 + 2 * r) 2 (by omega) (by omega) (by omega) (by omega), key (30 + 2 * r) 3 (by omega) (by omega) (by omega) (by omega), key 59 r (by omega) (by omega) (by omega) (by omega), key 60 r (by omega) (by omega) (by omega) (by omega)]
    rcases hrr with ⟨c1, c2, c3, q, c4, c5, c6, c7⟩ | hrr
    case inr => exact Or.inr hrr
    case inl =>
    refine Or.inl ⟨c1, c2, c3, q, c4, c5, c6, fun k hk => ?_⟩
    have r61 : ∀ k, T 61 k = S 61 k := fun k => by rw [t61 61 (by omega) (by omega)]
    by_cases hin : r = b ∧ nj ≤ k ∧ k < nj + n2
    · obtain ⟨rfl, y1, y2⟩ := hin
      rw [hS2, x_up_ne (by omega), x_cp_eq (by omega), r61, x_up_ne (by omega), x_cp_ne (by omega), hT, x_up_ne (by omega), x_cp_eq (by omega)]
      have h7 := a7 (ni + (k - nj)) (by omega)
      rw [← h7]
      congr 1
      omega
    · rw [hS2, x_up_ne (by omega), x_cp_ne (by omega), r61, x_up_ne (by omega), x_cp_ne (by omega), hT, x_up_ne (by omega), x_cp_ne (by omega)]
      exact c7 k hk
end ROWS3
