/-! KINDS -/
def x_fre (f : Nat → Int32) (w : Nat) : Bool := decide (∀ u, u < w → ¬ f u = f w)
def x_nwy (f : Nat → Int32) : Nat → Nat
  | 0 => 0
  | w + 1 => x_nwy f w + (if x_fre f w = true then 1 else 0)
theorem x_nwy_le {f : Nat → Int32} : ∀ k, x_nwy f k ≤ k := by
  intro k
  induction k with
  | zero => exact Nat.le_refl 0
  | succ k ih =>
    show x_nwy f k + (if x_fre f k = true then 1 else 0) ≤ k + 1
    split <;> omega
def x_kd2 (p u : Nat) : Nat := if p = 0 then 2 else if u = 1 then (if p ≤ 5 then 3 else 5) else (if p ≤ 5 then 1 else 4)
def x_isK (p u k : Nat) : Bool := match k with
  | 0 => true
  | 1 => decide (0 < p)
  | 2 => decide (p = 0)
  | 3 => decide (0 < p) && decide (u = 1)
  | 4 => !(decide (0 < p) && decide (u = 1)) && decide (6 ≤ p)
  | 5 => (decide (0 < p) && decide (u = 1)) && decide (6 ≤ p)
  | _ => false
section KIND
variable {xs : List Int32} {d : Nat} {S : x_M} {c m : Nat} {f : Nat → Int32}
theorem c_unlike (hc : c < 14) (hf : ∀ w, w < 8 → S 14 (8 * c + w) = f w) : x_Cr xs (d + 2) 15 [.ref 12, .int (nI c)] S (nI (x_nwy f 8)) := by
  refine x_Ci_of (by rw [ml_15]; rfl) (T_15_0 (by decide) ?_)
  have loop : ∀ i w, w + i = 8 → ∀ a4 : Value, x_E xs (d + 2) 15 4 [.ref 12, .int (nI c), .int (nI (x_nwy f w)), .int (nI w), a4] [] S (fun r S' => ∃ v : Int32, r = some (.int v) ∧ v = nI (x_nwy f 8) ∧ S' = S) := by
    intro i
    induction i with
    | zero =>
      intro w hw a4
      have hw8 : w = 8 := by omega
      subst hw8
      refine T_15_4 (by decide) ?_
      rw [if_pos (by decide)]
      exact ⟨_, rfl, rfl, rfl⟩
    | succ i ih =>
      intro w hw a4
      refine T_15_4 (by decide) ?_
      rw [if_neg (show ¬ (8 : Int32) ≤ nI w from nI_ge (b := 8) (by omega) (by decide))]
      have hx : x_nwy f (w + 1) = x_nwy f w + (if x_fre f w = true then 1 else 0) := rfl
      have inner : ∀ j u, u + j = w → (∀ v, v < u → ¬ f v = f w) → x_E xs (d + 2) 15 13 [.ref 12, .int (nI c), .int (nI (x_nwy f w)), .int (nI w), .int (nI u)] [] S (fun r S' => ∃ v : Int32, r = some (.int v) ∧ v = nI (x_nwy f 8) ∧ S' = S) := by
        intro j
        induction j with
        | zero =>
          intro u hu hall
          have huw : u = w := by omega
          subst huw
          refine T_15_13 (by decide) ?_
          rw [if_pos (Int32.le_refl _), if_pos rfl, ← nI_succ, ← nI_succ]
          have hi := ih (u + 1) (by omega) (.int (nI u))
          rw [hx, if_pos (by unfold x_fre; exact decide_eq_true hall)] at hi
          exact hi
        | succ j ih2 =>
          intro u hu hall
          refine T_15_13 (by decide) ?_
          rw [if_neg (nI_ge (by omega) (by omega))]
          refine x_rd (c_lie (by decide) hc (by omega)) (x_rd (c_lie (by decide) hc (by omega)) ?_)
          rw [hf u (by omega), hf w (by omega)]
          split
          next h =>
            rw [if_neg (by rw [nI_eq (by omega) (by omega)]; omega), ← nI_succ]
            have hi := ih (w + 1) (by omega) (.int (nI u))
            rw [hx, if_neg (by unfold x_fre; rw [decide_eq_true_eq]; exact fun z => z u (by omega) h)] at hi
            exact hi
          next h =>
            rw [← nI_succ]
            refine ih2 (u + 1) (by omega) (fun v hv => ?_)
            by_cases hvu : v = u
            · subst hvu; exact h
            · exact hall v (by omega)
      exact inner w 0 (by omega) (fun v hv => by omega)
  exact loop 8 0 rfl _
theorem c_waysOf (hc : c < 14) (hf : ∀ w, w < 8 → S 66 (8 * c + w) = f w) : x_Cr xs (d + 1) 151 [.ref 56, .int (nI c)] S (nI (x_nwy f 8)) := by
  refine x_Ci_of (by rw [ml_151]; rfl) (T_151_0 ?_)
  have loop : ∀ i w, w + i = 8 → ∀ a4 a5 : Value, x_E xs (d + 1) 151 4 [.ref 56, .int (nI c), .int (nI (x_nwy f w)), .int (nI w), a4, a5] [] S (fun r S' => ∃ v : Int32, r = some (.int v) ∧ v = nI (x_nwy f 8) ∧ S' = S) := by
    intro i
    induction i with
    | zero =>
      intro w hw a4 a5
      have hw8 : w = 8 := by omega
      subst hw8
      refine T_151_4 ?_
      rw [if_pos (by decide)]
      exact ⟨_, rfl, rfl, rfl⟩
    | succ i ih =>
      intro w hw a4 a5
      refine T_151_4 ?_
      rw [if_neg (show ¬ (8 : Int32) ≤ nI w from nI_ge (b := 8) (by omega) (by decide))]
      have hx : x_nwy f (w + 1) = x_nwy f w + (if x_fre f w = true then 1 else 0) := rfl
      have inner : ∀ j u, u + j = w → x_E xs (d + 1) 151 16 [.ref 56, .int (nI c), .int (nI (x_nwy f w)), .int (nI w), .int (x_b (decide (∀ v, v < u → ¬ f v = f w))), .int (nI u)] [] S (fun r S' => ∃ v : Int32, r = some (.int v) ∧ v = nI (x_nwy f 8) ∧ S' = S) := by
        intro j
        induction j with
        | zero =>
          intro u hu
          have huw : u = w := by omega
          subst huw
          refine T_151_16 ?_
          rw [if_pos (Int32.le_refl _)]
          have hi := ih (u + 1) (by omega) (.int (x_b (decide (∀ v, v < u → ¬ f v = f u)))) (.int (nI u))
          rw [hx] at hi
          split
          next h =>
            rw [x_b_0] at h
            rw [if_neg (show ¬ x_fre f u = true from h), nI_succ] at hi
            rw [Int32.add_zero]
            exact hi
          next h =>
            have h := Decidable.not_not.mp (fun z => h (x_b_0.mpr z))
            rw [if_pos (show x_fre f u = true from h), nI_succ u, nI_succ] at hi
            exact hi
        | succ j ih2 =>
          intro u hu
          refine T_151_16 ?_
          rw [if_neg (nI_ge (by omega) (by omega))]
          have hi := ih2 (u + 1) (by omega)
          rw [nI_succ] at hi
          split
          next h =>
            rw [x_b_0, decide_eq_true_eq] at h
            rw [show decide (∀ v, v < u + 1 → ¬ f v = f w) = false from decide_eq_false (fun z => h (fun v hv => z v (by omega)))] at hi
            exact hi
          next h =>
            have h := Decidable.not_not.mp (fun z => h (x_b_0.mpr z))
            rw [decide_eq_true_eq] at h
            rw [x_8cw, x_8cw, nI_clamp (by omega), nI_clamp (by omega), hf u (by omega), hf w (by omega)]
            refine ⟨x_ib_n (by omega) (by decide), x_ib_n (by omega) (by decide), ?_⟩
            split
            next h2 =>
              rw [show decide (∀ v, v < u + 1 → ¬ f v = f w) = false from decide_eq_false (fun z => z u (by omega) h2)] at hi
              exact hi
            next h2 =>
              rw [show decide (∀ v, v < u + 1 → ¬ f v = f w) = true from decide_eq_true (fun v hv => by
                by_cases hvu : v = u
                · subst hvu; exact h2
                · exact h v (by omega))] at hi
              exact hi
      have h0 := inner w 0 (by omega)
      have e0 : ∀ u : Nat, u = 0 → decide (∀ v, v < u → ¬ f v = f w) = true := fun u hu => decide_eq_true (fun v hv => by omega)
      rw [e0 0 rfl] at h0
      exact h0
  exact loop 8 0 rfl _ _
theorem c_isOfKind {k : Nat} (hc : c < 14) (hk : k < 6) (hm : m < 512) (hf : ∀ w, w < 8 → S 14 (8 * c + w) = f w) (h0 : f 0 = nI m) : x_Cr xs (d + 3) 89 [.ref 12, .int (nI c), .int (nI k)] S (x_b (x_isK (x_pop m 14) (x_nwy f 8) k)) := by
  have hp := x_pop_le (l := m) 14
  have hu := x_nwy_le (f := f) 8
  have fin : ∀ e : Bool, e = (decide (0 < x_pop m 14) && decide (x_nwy f 8 = 1)) → x_E xs (d + 3) 89 28 [.ref 12, .int (nI c), .int (nI k), .int (nI (x_pop m 14)), .null] [.int (x_b e)] S (fun r S' => ∃ v : Int32, r = some (.int v) ∧ v = x_b (x_isK (x_pop m 14) (x_nwy f 8) k) ∧ S' = S) := by
    intro e he
    refine T_89_28 (by decide) ?_
    rcases (by omega : k = 0 ∨ k = 1 ∨ k = 2 ∨ k = 3 ∨ k = 4 ∨ k = 5) with rfl | rfl | rfl | rfl | rfl | rfl
    · rw [if_pos (by decide)]
      exact x_rt_i rfl
    · rw [if_neg (by decide), if_pos (by decide)]
      show if nI (x_pop m 14) ≤ 0 then _ else _
      by_cases h : 0 < x_pop m 14
      · rw [if_neg (nI_nle h (by omega))]
        exact x_rt_i (x_b_t (decide_eq_true h))
      · rw [if_pos (by rw [show x_pop m 14 = 0 by omega]; decide)]
        exact x_rt_i (x_b_f (fun z => h (of_decide_eq_true z)))
    · rw [if_neg (by decide), if_neg (by decide), if_pos (by decide)]
      split
      next h => rw [nI_eq0 (by omega)] at h; exact x_rt_i (x_b_t (decide_eq_true h))
      next h => rw [nI_eq0 (by omega)] at h; exact x_rt_i (x_b_f (fun z => h (of_decide_eq_true z)))
    · rw [if_neg (by decide), if_neg (by decide), if_neg (by decide), if_pos (by decide)]
      exact ⟨x_b01 _, x_rt_i (by rw [he]; rfl)⟩
    · rw [if_neg (by decide), if_neg (by decide), if_neg (by decide), if_neg (by decide), if_pos (by decide)]
      have hx : x_isK (x_pop m 14) (x_nwy f 8) 4 = (!e && decide (6 ≤ x_pop m 14)) := by rw [he]; rfl
      rw [hx]
      have h6 : nI (x_pop m 14) < 6 ↔ ¬ 6 ≤ x_pop m 14 := by rw [show (6 : Int32) = nI 6 from rfl, nI_ltI (by omega) (by omega)]; omega
      cases e with
      | false =>
        rw [if_pos (show x_b false = 0 from rfl)]
        by_cases h : 6 ≤ x_pop m 14
        · rw [if_neg (fun z => h6.mp z h)]; exact x_rt_i (by rw [decide_eq_true h]; rfl)
        · rw [if_pos (h6.mpr h)]; exact x_rt_i (by rw [decide_eq_false h]; rfl)
      | true =>
        rw [if_neg (by decide)]
        exact x_rt_i rfl
    · rw [if_neg (by decide), if_neg (by decide), if_neg (by decide), if_neg (by decide), if_neg (by decide), if_pos (by decide)]
      have hx : x_isK (x_pop m 14) (x_nwy f 8) 5 = (e && decide (6 ≤ x_pop m 14)) := by rw [he]; rfl
      rw [hx]
      have h6 : nI (x_pop m 14) < 6 ↔ ¬ 6 ≤ x_pop m 14 := by rw [show (6 : Int32) = nI 6 from rfl, nI_ltI (by omega) (by omega)]; omega
      cases e with
      | true =>
        rw [if_neg (by decide)]
        by_cases h : 6 ≤ x_pop m 14
        · rw [if_neg (fun z => h6.mp z h)]; exact x_rt_i (by rw [decide_eq_true h]; rfl)
        · rw [if_pos (h6.mpr h)]; exact x_rt_i (by rw [decide_eq_false h]; rfl)
      | false =>
        rw [if_pos (show x_b false = 0 from rfl)]
        exact x_rt_i rfl
  refine x_Ci_of (by rw [ml_89]; rfl) (T_89_0 (by decide) (x_rd (c_lie (w := 0) (by decide) hc (by omega)) ?_))
  rw [hf 0 (by omega), h0]
  refine x_rd (c_bitCount (by omega)) ?_
  split
  next h =>
    have hz : ¬ 0 < x_pop m 14 := fun z => nI_nle z (by omega) h
    exact fin false (by rw [decide_eq_false hz]; rfl)
  next h =>
    have hz : 0 < x_pop m 14 := Nat.pos_of_ne_zero (fun z => h (by rw [z]; decide))
    refine x_rd (c_unlike hc hf) ?_
    rw [show (1 : Int32) = nI 1 from rfl]
    split
    next h2 =>
      rw [nI_eq (by omega) (by omega)] at h2
      exact fin true (by rw [decide_eq_true hz, decide_eq_true h2]; rfl)
    next h2 =>
      rw [nI_eq (by omega) (by omega)] at h2
      exact fin false (by rw [decide_eq_true hz, decide_eq_false h2]; rfl)
theorem x_kd2_5 {p u : Nat} (h : ¬ p = 0) (h5 : x_isK p u 5 = true) : x_kd2 p u = 5 := by
  simp only [x_isK, Bool.and_eq_true, decide_eq_true_eq] at h5
  unfold x_kd2
  rw [if_neg h, if_pos h5.1.2, if_neg (by omega)]
theorem x_kd2_3 {p u : Nat} (h : ¬ p = 0) (h5 : ¬ x_isK p u 5 = true) (h3 : x_isK p u 3 = true) : x_kd2 p u = 3 := by
  simp only [x_isK, Bool.and_eq_true, decide_eq_true_eq] at h5 h3
  unfold x_kd2
  rw [if_neg h, if_pos h3.2, if_pos (by omega)]
theorem x_kd2_4 {p u : Nat} (h : ¬ p = 0) (h3 : ¬ x_isK p u 3 = true) (h4 : x_isK p u 4 = true) : x_kd2 p u = 4 := by
  simp only [x_isK, Bool.and_eq_true, decide_eq_true_eq] at h3 h4
  unfold x_kd2
  rw [if_neg h, if_neg (by omega), if_neg (by omega)]
theorem x_kd2_1 {p u : Nat} (h : ¬ p = 0) (h3 : ¬ x_isK p u 3 = true) (h4 : ¬ x_isK p u 4 = true) : x_kd2 p u = 1 := by
  have hu : ¬ u = 1 := fun z => h3 (by simp only [x_isK, Bool.and_eq_true, decide_eq_true_eq]; omega)
  have hp : p ≤ 5 := by
    apply Decidable.byContradiction
    intro z
    refine h4 ?_
    simp only [x_isK, Bool.and_eq_true, decide_eq_true_eq, Bool.not_eq_true', decide_eq_false hu, Bool.and_false, true_and]
    omega
  unfold x_kd2
  rw [if_neg h, if_neg hu, if_pos hp]
theorem c_kindOf (hc : c < 14) (hm : m < 512) (hf : ∀ w, w < 8 → S 14 (8 * c + w) = f w) (h0 : f 0 = nI m) : x_Cr xs (d + 4) 88 [.ref 12, .int (nI c)] S (nI (x_kd2 (x_pop m 14) (x_nwy f 8))) := by
  refine x_Ci_of (by rw [ml_88]; rfl) (T_88_0 (by decide) (x_rd (c_isOfKind (k := 2) hc (by omega) hm hf h0) ?_))
  by_cases h1 : x_pop m 14 = 0
  · rw [if_neg (x_b_ne (show x_isK (x_pop m 14) (x_nwy f 8) 2 = true from decide_eq_true h1))]
    exact x_rt_i (by unfold x_kd2; rw [if_pos h1]; rfl)
  · rw [if_pos (x_b_0.mpr (show ¬ x_isK (x_pop m 14) (x_nwy f 8) 2 = true from fun z => h1 (of_decide_eq_true z)))]
    refine x_rd (c_isOfKind (k := 5) hc (by omega) hm hf h0) ?_
    by_cases h5 : x_isK (x_pop m 14) (x_nwy f 8) 5 = true
    · rw [if_neg (x_b_ne h5), x_kd2_5 h1 h5]
      exact x_rt_i rfl
    · rw [if_pos (x_b_0.mpr h5)]
      refine x_rd (c_isOfKind (k := 3) hc (by omega) hm hf h0) ?_
      by_cases h3 : x_isK (x_pop m 14) (x_nwy f 8) 3 = true
      · rw [if_neg (x_b_ne h3), x_kd2_3 h1 h5 h3]
        exact x_rt_i rfl
      · rw [if_pos (x_b_0.mpr h3)]
        refine x_rd (c_isOfKind (k := 4) hc (by omega) hm hf h0) ?_
        by_cases h4 : x_isK (x_pop m 14) (x_nwy f 8) 4 = true
        · rw [if_neg (x_b_ne h4), x_kd2_4 h1 h3 h4]
          exact x_rt_i rfl
        · rw [if_pos (x_b_0.mpr h4), x_kd2_1 h1 h3 h4]
          exact x_rt_i rfl
theorem c_kindOfM (hc : c < 14) (hm : m < 512) (hf : ∀ w, w < 8 → S 66 (8 * c + w) = f w) (h0 : S 57 (2 + c) = nI m) : x_Cr xs (d + 2) 160 [.ref 56, .int (nI c)] S (nI (x_kd2 (x_pop m 14) (x_nwy f 8))) := by
  have hp := x_pop_le (l := m) 14
  have hu := x_nwy_le (f := f) 8
  refine x_Ci_of (by rw [ml_160]; rfl) (T_160_0 ?_)
  rw [show (2 : Int32) + nI c = nI (2 + c) from nI_add 2 c, nI_clamp (n := 2 + c) (by omega), h0]
  refine ⟨x_ib_n (by omega) (by decide), x_rd (c_bits (by omega)) (x_rd (c_waysOf hc hf) ?_)⟩
  have h5 : nI (x_pop m 14) ≤ 5 ↔ x_pop m 14 ≤ 5 := nI_leI (b := 5) (by omega) (by omega)
  have key : ∀ e : Bool, e = decide (x_nwy f 8 = 1) → x_E xs (d + 2) 160 26 [.ref 56, .int (nI c), .int (nI (x_pop m 14)), .null] [.int (x_b e)] S (fun r S' => ∃ v : Int32, r = some (.int v) ∧ v = nI (x_kd2 (x_pop m 14) (x_nwy f 8)) ∧ S' = S) := by
    intro e he
    refine T_160_26 ?_
    unfold x_kd2
    by_cases h1 : x_pop m 14 = 0
    · rw [h1, if_pos (by decide), if_pos rfl]
      exact x_rt_i rfl
    · rw [if_neg (by rw [nI_eq0 (by omega)]; exact h1), if_neg h1]
      cases e with
      | false =>
        have hu1 : ¬ x_nwy f 8 = 1 := fun z => by rw [decide_eq_true z] at he; exact absurd he (by decide)
        rw [if_pos (show x_b false = 0 from rfl), if_pos (show x_b false = 0 from rfl), if_neg hu1]
        by_cases h : x_pop m 14 ≤ 5
        · rw [if_pos (h5.mpr h), if_pos h]; exact x_rt_i rfl
        · rw [if_neg (fun z => h (h5.mp z)), if_neg h]; exact x_rt_i rfl
      | true =>
        have hu1 : x_nwy f 8 = 1 := of_decide_eq_true he.symm
        rw [if_neg (by decide), if_pos hu1]
        by_cases h : x_pop m 14 ≤ 5
        · rw [if_pos (h5.mpr h), if_neg (by decide), if_pos h]; exact x_rt_i rfl
        · rw [if_neg (fun z => h (h5.mp z)), if_neg h]; exact x_rt_i rfl
  rw [show (1 : Int32) = nI 1 from rfl]
  split
  next h => rw [nI_eq (by omega) (by omega)] at h; exact key true (decide_eq_true h).symm
  next h => rw [nI_eq (by omega) (by omega)] at h; exact key false (decide_eq_false h).symm
/-- what an op about a card begins with -/
theorem o_card {z1 z2 : Nat} {a : Int32} {A : List Value} (H : x_Inv S) (hbC : ∀ n, S 12 5 = nI n → ¬ (0 ≤ a ∧ a < nI n) → x_Cr xs d z1 (.ref 8 :: A) S (-1000001)) (hbM : ∀ n, n ≤ 14 → S 57 1 = nI n → ¬ (0 ≤ a ∧ a < nI n) → x_Cr xs d z2 (.ref 56 :: A) S (-1000001)) (hg : ∀ n c, n ≤ 14 → S 12 5 = nI n → S 57 1 = nI n → c < n → a = nI c → S 12 4 = 1 → S 57 0 = 1 → x_On S n → x_Op xs d z1 z2 A S) : x_Op xs d z1 z2 A S := by
  obtain ⟨n, n1, n2, n3, n4⟩ := x_view H
  by_cases hb : 0 ≤ a ∧ a < nI n
  · obtain ⟨c, hc, rfl⟩ := x_crd_n n1 hb
    rcases n4 with n4 | ⟨p1, p2, p3, p4⟩
    · omega
    · exact hg n c n1 n2 n3 hc rfl p1 p2 p4
  · exact x_Op_rd H (hbC n n2 hb) (hbM n n1 n3 hb)
theorem x_cardC {n : Nat} {a : Int32} (hn : S 12 5 = nI n) (h : ¬ (0 ≤ a ∧ a < nI n)) : x_b (decide (0 ≤ a ∧ a < S 12 5)) = 0 := by rw [hn]; exact x_b_0.mpr (by rw [decide_eq_true_eq]; exact h)
theorem x_cardM {n : Nat} {a : Int32} (hn4 : n ≤ 14) (hn : S 57 1 = nI n) (h : ¬ (0 ≤ a ∧ a < nI n)) : x_b (decide (0 ≤ a ∧ a ≤ S 57 1 - 1)) = 0 := by rw [hn]; exact x_b_0.mpr (by rw [decide_eq_true_eq, x_crd hn4]; exact h)
theorem x_cd_in {n c : Nat} (hc : c < n) (hn : n < 2 ^ 31) : 0 ≤ nI c ∧ nI c < nI n := ⟨nI_pos' (by omega), nI_lt hc hn⟩
theorem x_cardC' {n c : Nat} (hn : S 12 5 = nI n) (hc : c < n) (hn4 : n ≤ 14) : ¬ x_b (decide (0 ≤ nI c ∧ nI c < S 12 5)) = 0 := by rw [hn]; exact x_b_ne (by rw [decide_eq_true_eq]; exact x_cd_in hc (by omega))
theorem x_cardM' {n c : Nat} (hn : S 57 1 = nI n) (hc : c < n) (hn4 : n ≤ 14) : ¬ x_b (decide (0 ≤ nI c ∧ nI c ≤ S 57 1 - 1)) = 0 := by rw [hn]; exact x_b_ne (by rw [decide_eq_true_eq, x_crd hn4]; exact x_cd_in hc (by omega))
/-- what a card shows, to both -/
theorem x_On_c {n : Nat} (H : x_On S n) (hc : c < n) : ∃ m : Nat, m < 512 ∧ S 57 (2 + c) = nI m ∧ (∀ w, w < 8 → S 14 (8 * c + w) = nI (x_lieN m w)) ∧ (∀ w, w < 8 → S 66 (8 * c + w) = nI (x_lieN m w)) := by
  obtain ⟨m, h1, h2, h3⟩ := H.2.1 c hc
  exact ⟨m, h1, h2, fun w hw => (h3 w hw).1, fun w hw => (h3 w hw).2⟩
theorem o_kind {a : Int32} (H : x_Inv S) : x_Op xs (d + 5) 87 159 [.int a] S := by
  refine o_card (a := a) H (fun n hn h => ?_) (fun n hn4 hn h => ?_) (fun n c n1 n2 n3 hc ha p1 p2 p4 => ?_)
  · refine x_Ci_of (by rw [ml_87]; rfl) (T_87_0 (x_rd c_isCard ?_))
    rw [if_pos (x_cardC hn h)]
    exact x_rt_i rfl
  · refine x_Ci_of (by rw [ml_159]; rfl) (T_159_0 (x_rd c_isCardM ?_))
    rw [if_pos (x_cardM hn4 hn h)]
    exact x_rt_i rfl
  · subst ha
    obtain ⟨m, m1, m2, m3, m4⟩ := x_On_c p4 hc
    refine x_Op_rd (v := nI (x_kd2 (x_pop m 14) (x_nwy (fun w => nI (x_lieN m w)) 8))) H ?_ ?_
    · refine x_Ci_of (by rw [ml_87]; rfl) (T_87_0 (x_rd c_isCard ?_))
      rw [if_neg (x_cardC' n2 hc n1)]
      exact x_rd (c_kindOf (f := fun w => nI (x_lieN m w)) (by omega) m1 m3 rfl) (x_rt_i rfl)
    · refine x_Ci_of (by rw [ml_159]; rfl) (T_159_0 (x_rd c_isCardM ?_))
      rw [if_neg (x_cardM' n3 hc n1)]
      exact x_rd (c_kindOfM (f := fun w => nI (x_lieN m w)) (by omega) m1 m4 m2) (x_rt_i rfl)
theorem x_kd2_f (p u : Nat) : (p = 0 ∧ x_kd2 p u = 2) ∨ (0 < p ∧ u = 1 ∧ p ≤ 5 ∧ x_kd2 p u = 3) ∨ (0 < p ∧ u = 1 ∧ 5 < p ∧ x_kd2 p u = 5) ∨ (0 < p ∧ ¬ u = 1 ∧ p ≤ 5 ∧ x_kd2 p u = 1) ∨ (0 < p ∧ ¬ u = 1 ∧ 5 < p ∧ x_kd2 p u = 4) := by
  unfold x_kd2
  by_cases h : p = 0
  · rw [if_pos h]; omega
  · rw [if_neg h]
    by_cases h1 : u = 1
    · rw [if_pos h1]
      by_cases h2 : p ≤ 5
      · rw [if_pos h2]; omega
      · rw [if_neg h2]; omega
    · rw [if_neg h1]
      by_cases h2 : p ≤ 5
      · rw [if_pos h2]; omega
      · rw [if_neg h2]; omega
theorem x_isK_as {p u : Nat} : ∀ k, k < 6 → (x_isK p u k = true ↔ (k = 0 ∨ k = x_kd2 p u ∨ (k = 1 ∧ ¬ x_kd2 p u = 2) ∨ (k = 3 ∧ x_kd2 p u = 5))) := by
  intro k hk
  have hf := x_kd2_f p u
  generalize x_kd2 p u = q at hf ⊢
  rcases (by omega : k = 0 ∨ k = 1 ∨ k = 2 ∨ k = 3 ∨ k = 4 ∨ k = 5) with rfl | rfl | rfl | rfl | rfl | rfl
  · simp [x_isK]
  · simp only [x_isK, decide_eq_true_eq, true_and, false_and, false_or, or_false]
    rcases hf with ⟨h1, h2⟩ | ⟨h1, h2, h3, h4⟩ | ⟨h1, h2, h3, h4⟩ | ⟨h1, h2, h3, h4⟩ | ⟨h1, h2, h3, h4⟩ <;> (constructor <;> intro hh <;> omega)
  · simp only [x_isK, decide_eq_true_eq, true_and, false_and, false_or, or_false]
    rcases hf with ⟨h1, h2⟩ | ⟨h1, h2, h3, h4⟩ | ⟨h1, h2, h3, h4⟩ | ⟨h1, h2, h3, h4⟩ | ⟨h1, h2, h3, h4⟩ <;> (constructor <;> intro hh <;> omega)
  · simp only [x_isK, decide_eq_true_eq, Bool.and_eq_true, true_and, false_and, false_or, or_false]
    rcases hf with ⟨h1, h2⟩ | ⟨h1, h2, h3, h4⟩ | ⟨h1, h2, h3, h4⟩ | ⟨h1, h2, h3, h4⟩ | ⟨h1, h2, h3, h4⟩ <;> (constructor <;> intro hh <;> omega)
  · simp only [x_isK, decide_eq_true_eq, Bool.and_eq_true, Bool.not_eq_true', Bool.and_eq_false_iff, decide_eq_false_iff_not, true_and, false_and, false_or, or_false]
    rcases hf with ⟨h1, h2⟩ | ⟨h1, h2, h3, h4⟩ | ⟨h1, h2, h3, h4⟩ | ⟨h1, h2, h3, h4⟩ | ⟨h1, h2, h3, h4⟩ <;> (constructor <;> intro hh <;> omega)
  · simp only [x_isK, decide_eq_true_eq, Bool.and_eq_true, true_and, false_and, false_or, or_false]
    rcases hf with ⟨h1, h2⟩ | ⟨h1, h2, h3, h4⟩ | ⟨h1, h2, h3, h4⟩ | ⟨h1, h2, h3, h4⟩ | ⟨h1, h2, h3, h4⟩ <;> (constructor <;> intro hh <;> omega)
theorem x_nq {q r : Nat} (hq : q < 2 ^ 31) (hr : r < 2 ^ 31) (h : ¬ q = r) : ¬ nI q = nI r := fun z => h ((nI_eq hq hr).mp z)
theorem x_in05 {a : Int32} : decide ((0 : Int64) ≤ a.toInt64 ∧ a.toInt64 ≤ (5 : Int64)) = decide (0 ≤ a ∧ a ≤ 5) := by
  rw [show (5 : Int64) = (5 : Int32).toInt64 by decide, x_in0]
theorem x_lt6 {a : Int32} : a < 6 ↔ a ≤ 5 := by
  have e8 : (6 : Int32).toInt = 6 := by decide
  have e7 : (5 : Int32).toInt = 5 := by decide
  rw [Int32.lt_iff_toInt_lt, Int32.le_iff_toInt_le, e7, e8]
  omega
theorem o_as {a b : Int32} (H : x_Inv S) : x_Op xs (d + 5) 90 161 [.int a, .int b] S := by
  refine o_card (a := a) H (fun n hn h => ?_) (fun n hn4 hn h => ?_) (fun n c n1 n2 n3 hc ha p1 p2 p4 => ?_)
  · refine x_Ci_of (by rw [ml_90]; rfl) (T_90_0 (x_rd c_isCard ?_))
    rw [if_pos (x_cardC hn h)]
    exact x_rt_i rfl
  · refine x_Ci_of (by rw [ml_161]; rfl) (T_161_0 (x_rd c_isCardM ?_))
    rw [if_pos (x_cardM hn4 hn h)]
    exact x_rt_i rfl
  · subst ha
    by_cases hb : 0 ≤ b ∧ b ≤ 5
    case neg =>
      refine x_Op_rd (v := -1000001) H ?_ ?_
      · refine x_Ci_of (by rw [ml_90]; rfl) (T_90_0 (x_rd c_isCard ?_))
        rw [if_neg (x_cardC' n2 hc n1)]
        by_cases h1 : b < 0
        · rw [if_pos h1]; exact x_rt_i rfl
        · rw [if_neg h1, if_neg (fun z => hb ⟨Int32.not_lt.mp h1, x_lt6.mp z⟩)]; exact x_rt_i rfl
      · refine x_Ci_of (by rw [ml_161]; rfl) (T_161_0 (x_rd c_isCardM ?_))
        rw [if_neg (x_cardM' n3 hc n1)]
        refine x_rd c_in ?_
        rw [x_in05, if_pos (x_b_0.mpr (fun z => hb (by rw [decide_eq_true_eq] at z; exact z)))]
        exact x_rt_i rfl
    case pos =>
    obtain ⟨k, hk, rfl⟩ := x_le_nat (n := 5) (Int32.not_lt.mpr hb.1) hb.2 (by decide)
    obtain ⟨m, m1, m2, m3, m4⟩ := x_On_c p4 hc
    have hkd : x_kd2 (x_pop m 14) (x_nwy (fun w => nI (x_lieN m w)) 8) < 6 := by unfold x_kd2; split; omega; split <;> split <;> omega
    have preC : ∀ Q : Option Value → x_M → Prop, (if x_isK (x_pop m 14) (x_nwy (fun w => nI (x_lieN m w)) 8) k = true then (∃ P4 : Int32 → x_M → Prop, x_Ci xs (d + 4) 46 [.ref 8, .int (nI c)] S P4 ∧ ∀ (v4 : Int32) (S4 : x_M), P4 v4 S4 → (Q (some (.int v4)) S4)) else (∃ P3 : Int32 → x_M → Prop, x_Ci xs (d + 4) 45 [.ref 8, .int 3] S P3 ∧ ∀ (v3 : Int32) (S3 : x_M), P3 v3 S3 → (Q (some (.int v3)) S3))) → x_E xs (d + 5) 90 0 [.ref 8, .int (nI c), .int (nI k)] [] S Q := by
      intro Q hQ
      refine T_90_0 (x_rd c_isCard ?_)
      rw [if_neg (x_cardC' n2 hc n1), if_neg (nI_pos (by omega)), if_pos (x_lt6.mpr hb.2)]
      refine x_rd (c_isOfKind (f := fun w => nI (x_lieN m w)) (by omega) (by omega) m1 m3 rfl) ?_
      by_cases h : x_isK (x_pop m 14) (x_nwy (fun w => nI (x_lieN m w)) 8) k = true
      · rw [if_pos h] at hQ
        rw [if_neg (x_b_ne h)]
        exact hQ
      · rw [if_neg h] at hQ
        rw [if_pos (x_b_0.mpr h)]
        exact hQ
    have preM : ∀ (T : x_M) (Q : Option Value → x_M → Prop), (∀ p k, ¬ (p = 8 ∧ k = 9) → T p k = S p k) → (if x_isK (x_pop m 14) (x_nwy (fun w => nI (x_lieN m w)) 8) k = true then (∃ P4 : Int32 → x_M → Prop, x_Ci xs (d + 4) 103 [.ref 56, .int (nI c)] T P4 ∧ ∀ (v4 : Int32) (S4 : x_M), P4 v4 S4 → (Q (some (.int v4)) S4)) else (∃ P3 : Int32 → x_M → Prop, x_Ci xs (d + 4) 102 [.ref 56, .int 3] T P3 ∧ ∀ (v3 : Int32) (S3 : x_M), P3 v3 S3 → (Q (some (.int v3)) S3))) → x_E xs (d + 5) 161 0 [.ref 56, .int (nI c), .int (nI k), .null, .null] [] T Q := by
      intro T Q hT hQ
      have t57 : ∀ j, T 57 j = S 57 j := fun j => hT 57 j (by omega)
      refine T_161_0 (x_rd c_isCardM ?_)
      rw [t57, if_neg (x_cardM' n3 hc n1)]
      refine x_rd c_in ?_
      rw [x_in05, if_neg (x_b_ne (by rw [decide_eq_true_eq]; exact hb))]
      refine x_rd (c_kindOfM (f := fun w => nI (x_lieN m w)) (by omega) m1 (fun w hw => by rw [hT 66 _ (by omega)]; exact m4 w hw) (by rw [t57]; exact m2)) ?_
      have has := x_isK_as (p := x_pop m 14) (u := x_nwy (fun w => nI (x_lieN m w)) 8) k (by omega)
      generalize x_isK (x_pop m 14) (x_nwy (fun w => nI (x_lieN m w)) 8) k = e at has hQ
      generalize x_kd2 (x_pop m 14) (x_nwy (fun w => nI (x_lieN m w)) 8) = q at has hkd
      by_cases h0 : k = 0
      · rw [if_pos (has.mpr (by omega))] at hQ
        rw [if_pos (by rw [h0]; rfl)]
        exact hQ
      · rw [if_neg (by rw [nI_eq0 (by omega)]; exact h0)]
        by_cases h1 : k = q
        · rw [if_pos (has.mpr (by omega))] at hQ
          rw [if_pos (by rw [h1])]
          exact hQ
        · rw [if_neg (by rw [nI_eq (by omega) (by omega)]; exact h1)]
          have n48 : ∀ Q : Option Value → x_M → Prop, (if k = 3 ∧ q = 5 then (∃ P4 : Int32 → x_M → Prop, x_Ci xs (d + 4) 103 [.ref 56, .int (nI c)] T P4 ∧ ∀ (v4 : Int32) (S4 : x_M), P4 v4 S4 → (Q (some (.int v4)) S4)) else (∃ P3 : Int32 → x_M → Prop, x_Ci xs (d + 4) 102 [.ref 56, .int 3] T P3 ∧ ∀ (v3 : Int32) (S3 : x_M), P3 v3 S3 → (Q (some (.int v3)) S3))) → x_E xs (d + 5) 161 48 [.ref 56, .int (nI c), .int (nI k), .int (nI q), .null] [] T Q := by
            intro Q hQ
            refine T_161_48 ?_
            by_cases y1 : k = 3
            · rw [if_pos (by rw [y1]; rfl)]
              by_cases y2 : q = 5
              · rw [if_pos ⟨y1, y2⟩] at hQ
                rw [if_pos (by rw [y2]; rfl)]
                exact hQ
              · rw [if_neg (fun z => y2 z.2)] at hQ
                rw [if_neg (show ¬ nI q = 5 from x_nq (r := 5) (by omega) (by omega) y2)]
                exact hQ
            · rw [if_neg (fun z => y1 z.1)] at hQ
              rw [if_neg (show ¬ nI k = 3 from x_nq (r := 3) (by omega) (by omega) y1)]
              exact hQ
          by_cases h2 : k = 1
          · rw [if_pos (by rw [h2]; rfl)]
            by_cases h3 : q = 2
            · rw [if_pos (by rw [h3]; rfl)]
              refine n48 Q ?_
              rw [if_neg (by omega)]
              rw [if_neg (fun z => by have := has.mp z; omega)] at hQ
              exact hQ
            · rw [if_neg (show ¬ nI q = 2 from x_nq (r := 2) (by omega) (by omega) h3)]
              rw [if_pos (has.mpr (by omega))] at hQ
              exact hQ
          · rw [if_neg (show ¬ nI k = 1 from x_nq (r := 1) (by omega) (by omega) h2)]
            refine n48 Q ?_
            by_cases h4 : k = 3 ∧ q = 5
            · rw [if_pos h4]
              rw [if_pos (has.mpr (by omega))] at hQ
              exact hQ
            · rw [if_neg h4]
              rw [if_neg (fun z => by have := has.mp z; omega)] at hQ
              exact hQ
    by_cases h : x_isK (x_pop m 14) (x_nwy (fun w => nI (x_lieN m w)) 8) k = true
    · have hx : x_Ci xs (d + 5) 90 [.ref 8, .int (nI c), .int (nI k)] S (fun v S' => v = nI c ∧ S' = x_up S 8 9 0) := by
        refine x_Ci_of (by rw [ml_90]; rfl) (preC _ ?_)
        rw [if_pos h]
        refine ⟨_, c_passed, ?_⟩
        rintro w S1 ⟨rfl, rfl⟩
        exact ⟨_, rfl, rfl, rfl⟩
      refine x_Ci_weak hx ?_
      rintro v T ⟨rfl, rfl⟩
      have hz : x_Ci xs (d + 5) 161 [.ref 56, .int (nI c), .int (nI k)] (x_up S 8 9 0) (fun v S' => v = nI c ∧ S' = x_up (x_up S 8 9 0) 56 4 0) := by
        refine x_Ci_of (by rw [ml_161]; rfl) (preM _ _ (fun p k z => x_up_ne z) ?_)
        rw [if_pos h]
        refine ⟨_, c_give, ?_⟩
        rintro w S1 ⟨rfl, rfl⟩
        exact ⟨_, rfl, rfl, rfl⟩
      refine x_Ci_weak hz ?_
      rintro v T ⟨rfl, rfl⟩
      exact ⟨rfl, x_Inv_st H⟩
    · refine x_fnd (a := 3) H ?_ (fun T hT => ?_)
      · refine x_Ci_of (by rw [ml_90]; rfl) (preC _ ?_)
        rw [if_neg h]
        refine ⟨_, c_found, ?_⟩
        rintro w S1 ⟨rfl, rfl⟩
        exact ⟨_, rfl, rfl, rfl⟩
      · refine x_Ci_of (by rw [ml_161]; rfl) (preM _ _ hT ?_)
        rw [if_neg h]
        refine ⟨_, c_find, ?_⟩
        rintro w S1 ⟨rfl, rfl⟩
        exact ⟨_, rfl, rfl, rfl⟩
end KIND
