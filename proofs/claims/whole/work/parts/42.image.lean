/-! IMAGES: become, move, layTurned -/
/-- where bit k of a card comes to in a way, as the reference asks; the set of such bits -/
def x_qx (w k : Nat) : Nat × Nat := (List.range (w % 4)).foldl (fun p _ => (2 - p.2, p.1)) (if w < 4 then k % 3 else 2 - k % 3, k / 3)
def x_q (w k : Nat) : Nat := (x_qx w k).1 + 3 * (x_qx w k).2
def x_hoN (w m : Nat) : Nat → Nat
  | 0 => 0
  | k + 1 => x_hoN w m k ||| (if m.testBit k = true then 1 <<< x_q w k else 0)
theorem x_ho_t0 : ((List.range 8).all fun w => (List.range 256).all fun m => x_hoN w m 9 == x_lieN m w) = true := by decide +kernel
theorem x_ho_t1 : ((List.range 8).all fun w => (List.range 256).all fun m => x_hoN w (256 + m) 9 == x_lieN (256 + m) w) = true := by decide +kernel
theorem x_ho {m w : Nat} (hm : m < 512) (hw : w < 8) : x_hoN w m 9 = x_lieN m w := by
  by_cases h : m < 256
  · have h1 := List.all_eq_true.mp (List.all_eq_true.mp x_ho_t0 w (List.mem_range.mpr hw)) m (List.mem_range.mpr h)
    simpa using h1
  · have h1 := List.all_eq_true.mp (List.all_eq_true.mp x_ho_t1 w (List.mem_range.mpr hw)) (m - 256) (List.mem_range.mpr (by omega))
    rw [show 256 + (m - 256) = m by omega] at h1
    simpa using h1
/-- j quarter turns of a place -/
def x_qj (w k : Nat) : Nat → Nat × Nat
  | 0 => (if w < 4 then k % 3 else 2 - k % 3, k / 3)
  | j + 1 => (2 - (x_qj w k j).2, (x_qj w k j).1)
theorem x_qj_t : ((List.range 8).all fun w => (List.range 9).all fun k => decide (x_qj w k (w % 4) = x_qx w k) && (List.range 4).all fun j => decide ((x_qj w k j).1 < 3) && decide ((x_qj w k j).2 < 3)) = true := by decide +kernel
theorem x_qj_e {w k : Nat} (hw : w < 8) (hk : k < 9) : x_qj w k (w % 4) = x_qx w k := by
  have h1 := List.all_eq_true.mp (List.all_eq_true.mp x_qj_t w (List.mem_range.mpr hw)) k (List.mem_range.mpr hk)
  rw [Bool.and_eq_true] at h1
  exact of_decide_eq_true h1.1
theorem x_qj_lt {w k j : Nat} (hw : w < 8) (hk : k < 9) (hj : j < 4) : (x_qj w k j).1 < 3 ∧ (x_qj w k j).2 < 3 := by
  have h1 := List.all_eq_true.mp (List.all_eq_true.mp x_qj_t w (List.mem_range.mpr hw)) k (List.mem_range.mpr hk)
  rw [Bool.and_eq_true] at h1
  have h2 := List.all_eq_true.mp h1.2 j (List.mem_range.mpr hj)
  simpa using h2
section IMAGE
variable {xs : List Int32} {d : Nat} {S : x_M}
theorem c_holesOf {m w : Nat} (hm : m < 512) (hw : w < 8) : x_Cr xs (d + 2) 121 [.int (nI m), .int (nI w)] S (nI (x_lieN m w)) := by
  refine x_Ci_of (by rw [ml_121]; rfl) (T_121_0 ?_)
  have inner : ∀ (k : Nat) (v : Int32) (a7 : Value), k < 9 → (∀ (a4 a5 a6 a7 : Value), x_E xs (d + 2) 121 4 [.int (nI m), .int (nI w), .int (v ||| (if m.testBit k = true then nI (1 <<< x_q w k) else 0)), .int (nI (k + 1)), a4, a5, a6, a7] [] S (fun r S' => ∃ v : Int32, r = some (.int v) ∧ v = nI (x_lieN m w) ∧ S' = S)) → ∀ i j, j + i = w % 4 → ∀ a7 : Value, x_E xs (d + 2) 121 36 [.int (nI m), .int (nI w), .int v, .int (nI k), .int (nI (x_qj w k j).1), .int (nI (x_qj w k j).2), .int (nI j), a7] [] S (fun r S' => ∃ v : Int32, r = some (.int v) ∧ v = nI (x_lieN m w) ∧ S' = S) := by
    intro k v a7 hk hnx i
    induction i with
    | zero =>
      intro j hj a7
      refine T_121_36 ?_
      rw [show nI w - nI w / 4 * 4 = nI (w % 4) from nI_rem (b := 4) (by omega) (by omega), if_pos (by rw [nI_leI (by omega) (by omega)]; omega)]
      refine x_rd c_has ?_
      rw [x_has_n (by omega) (by omega), ← nI_succ]
      have hj' : j = w % 4 := by omega
      have hq : nI (x_qj w k j).1 + 3 * nI (x_qj w k j).2 = nI (x_q w k) := by
        rw [hj', x_qj_e hw hk, show (3 : Int32) = nI 3 from rfl, nI_mul, nI_add]
        rfl
      have hl := x_qj_lt (w := w) (k := k) (j := j) hw hk (by omega)
      have hq2 : x_q w k < 32 := by
        unfold x_q
        rw [← x_qj_e hw hk, ← hj']
        omega
      split
      next h =>
        rw [x_b_0] at h
        have := hnx (.int (nI (x_qj w k j).1)) (.int (nI (x_qj w k j).2)) (.int (nI j)) a7
        rw [if_neg h] at this
        exact this
      next h =>
        have h := Decidable.not_not.mp (fun z => h (x_b_0.mpr z))
        have := hnx (.int (nI (x_qj w k j).1)) (.int (nI (x_qj w k j).2)) (.int (nI j)) a7
        rw [if_pos h] at this
        rw [hq, show (1 : Int32) = nI 1 from rfl, nI_shl hq2]
        exact this
    | succ i ih =>
      intro j hj a7
      refine T_121_36 ?_
      have hl := x_qj_lt (w := w) (k := k) (j := j) hw hk (by omega)
      rw [show nI w - nI w / 4 * 4 = nI (w % 4) from nI_rem (b := 4) (by omega) (by omega), if_neg (by rw [nI_leI (by omega) (by omega)]; omega), ← nI_succ]
      rw [show (2 : Int32) - nI (x_qj w k j).2 = nI (2 - (x_qj w k j).2) from nI_sub (a := 2) (by omega)]
      exact ih (j + 1) (by omega) (.int (nI (x_qj w k j).1))
  have loop : ∀ i k, k + i = 9 → ∀ (a4 a5 a6 a7 : Value), x_E xs (d + 2) 121 4 [.int (nI m), .int (nI w), .int (nI (x_hoN w m k)), .int (nI k), a4, a5, a6, a7] [] S (fun r S' => ∃ v : Int32, r = some (.int v) ∧ v = nI (x_lieN m w) ∧ S' = S) := by
    intro i
    induction i with
    | zero =>
      intro k hk a4 a5 a6 a7
      have hk9 : k = 9 := by omega
      subst hk9
      refine T_121_4 ?_
      rw [if_pos (by decide), x_ho hm hw]
      exact ⟨_, rfl, rfl, rfl⟩
    | succ i ih =>
      intro k hk a4 a5 a6 a7
      refine T_121_4 ?_
      have hnx : ∀ (a4 a5 a6 a7 : Value), x_E xs (d + 2) 121 4 [.int (nI m), .int (nI w), .int (nI (x_hoN w m k) ||| (if m.testBit k = true then nI (1 <<< x_q w k) else 0)), .int (nI (k + 1)), a4, a5, a6, a7] [] S (fun r S' => ∃ v : Int32, r = some (.int v) ∧ v = nI (x_lieN m w) ∧ S' = S) := by
        intro a4 a5 a6 a7
        have h1 := ih (k + 1) (by omega) a4 a5 a6 a7
        have h2 : nI (x_hoN w m (k + 1)) = nI (x_hoN w m k) ||| (if m.testBit k = true then nI (1 <<< x_q w k) else 0) := by
          show nI (x_hoN w m k ||| (if m.testBit k = true then 1 <<< x_q w k else 0)) = _
          rw [← nI_or]
          split <;> rfl
        rw [h2] at h1
        exact h1
      rw [if_neg (show ¬ (9 : Int32) ≤ nI k from nI_ge (a := k) (b := 9) (by omega) (by decide)), show nI k - nI k / 3 * 3 = nI (k % 3) from nI_rem (b := 3) (by omega) (by omega), show nI k / 3 = nI (k / 3) from nI_div (b := 3) (by omega) (by omega)]
      have h0 := inner k (nI (x_hoN w m k)) a7 (by omega) hnx (w % 4) 0 (by omega) a7
      split
      next h =>
        have h' : ¬ w < 4 := fun z => nI_ge (a := w) (b := 4) z (by omega) h
        rw [show (2 : Int32) - nI (k % 3) = nI (2 - k % 3) from nI_sub (a := 2) (b := k % 3) (by omega)]
        rw [show x_qj w k 0 = (2 - k % 3, k / 3) by show (if w < 4 then k % 3 else 2 - k % 3, k / 3) = _; rw [if_neg h']] at h0
        exact h0
      next h =>
        have h' : w < 4 := Decidable.not_not.mp (fun z => h (nI_le (a := 4) (b := w) (by omega) (by omega)))
        rw [show x_qj w k 0 = (k % 3, k / 3) by show (if w < 4 then k % 3 else 2 - k % 3, k / 3) = _; rw [if_pos h']] at h0
        exact h0
  exact loop 9 0 rfl _ _ _ _
theorem c_layTurned {n : Nat} (hn : S 57 1 = nI n) (hn4 : n ≤ 14) (hc : ∀ c, c < n → ∃ m : Nat, m < 512 ∧ S 57 (2 + c) = nI m) : x_Cv xs (d + 3) 120 [.ref 56] S (fun S' => (∀ c w, c < n → w < 8 → S' 66 (8 * c + w) = x_lieF (S 57 (2 + c)) w) ∧ ∀ p, p ≠ 66 → S' p = S p) := by
  refine x_Cv_of (by rw [ml_120]; rfl) (T_120_0 ?_)
  have loop : ∀ i k (T : x_M), k + i = 8 * n → (∀ v, v < k → T 66 v = x_lieF (S 57 (2 + v / 8)) (v % 8)) → (∀ p, p ≠ 66 → T p = S p) → x_E xs (d + 3) 120 2 [.ref 56, .int (nI k)] [] T (fun r S' => r = none ∧ (∀ c w, c < n → w < 8 → S' 66 (8 * c + w) = x_lieF (S 57 (2 + c)) w) ∧ ∀ p, p ≠ 66 → S' p = S p) := by
    intro i
    induction i with
    | zero =>
      intro k T hk h1 h2
      refine T_120_2 ?_
      rw [h2 57 (by omega), hn, show (8 : Int32) * nI n = nI (8 * n) from nI_mul 8 n, if_pos (nI_le (by omega) (by omega))]
      refine ⟨rfl, fun c w hc hw => ?_, h2⟩
      have h3 := h1 (8 * c + w) (by omega)
      rw [show (8 * c + w) / 8 = c by omega, show (8 * c + w) % 8 = w by omega] at h3
      exact h3
    | succ i ih =>
      intro k T hk h1 h2
      refine T_120_2 ?_
      rw [h2 57 (by omega), hn, show (8 : Int32) * nI n = nI (8 * n) from nI_mul 8 n, if_neg (nI_ge (by omega) (by omega)), show nI k - nI k / 8 * 8 = nI (k % 8) from nI_rem (b := 8) (by omega) (by omega), show nI k / 8 = nI (k / 8) from nI_div (b := 8) (by omega) (by omega), show (2 : Int32) + nI (k / 8) = nI (2 + k / 8) from nI_add 2 _, nI_clamp (n := 2 + k / 8) (by omega), nI_clamp (n := k) (by omega)]
      refine ⟨x_ib_n (by omega) (by decide), ?_⟩
      obtain ⟨m, hm, em⟩ := hc (k / 8) (by omega)
      rw [em]
      refine x_rd (c_holesOf hm (by omega)) ⟨x_ib_n (by omega) (by decide), ?_⟩
      rintro T2 rfl
      have hi := ih (k + 1) (x_up T 66 k (nI (x_lieN m (k % 8)))) (by omega) (fun v hv => ?_) (fun p hp => by rw [x_up_pl hp, h2 p hp])
      · rw [nI_succ] at hi
        exact hi
      · by_cases hvk : v = k
        · subst hvk
          rw [x_up_at, em, x_lie_n hm (by omega)]
        · rw [x_up_ne (by omega)]
          exact h1 v (by omega)
  exact loop (8 * n) 0 S (by omega) (fun v hv => by omega) (fun p _ => rfl)
theorem c_move {f t : Nat} (hf : f < 3) (ht : t < 3) (hft : f ≠ t) : x_Cv xs (d + 1) 157 [.ref 56, .int (nI f), .int (nI t)] S (fun S' => S' = x_cp S 57 (33 * f) 57 (33 * t) 33) := by
  refine x_Cv_of (by rw [ml_157]; rfl) (T_157_0 ?_)
  have loop : ∀ i k, k + i = 33 → x_E xs (d + 1) 157 2 [.ref 56, .int (nI f), .int (nI t), .int (nI k)] [] (x_cp S 57 (33 * f) 57 (33 * t) k) (fun r S' => r = none ∧ S' = x_cp S 57 (33 * f) 57 (33 * t) 33) := by
    intro i
    induction i with
    | zero =>
      intro k hk
      have hk9 : k = 33 := by omega
      subst hk9
      refine T_157_2 ?_
      rw [if_pos (by decide)]
      exact ⟨rfl, rfl⟩
    | succ i ih =>
      intro k hk
      refine T_157_2 ?_
      rw [if_neg (show ¬ (33 : Int32) ≤ nI k from nI_ge (a := k) (b := 33) (by omega) (by decide)), show (33 : Int32) * nI f + nI k = nI (33 * f + k) by rw [show (33 : Int32) = nI 33 from rfl, nI_mul, nI_add], show (33 : Int32) * nI t + nI k = nI (33 * t + k) by rw [show (33 : Int32) = nI 33 from rfl, nI_mul, nI_add], nI_clamp (n := 33 * f + k) (by omega), nI_clamp (n := 33 * t + k) (by omega)]
      refine ⟨x_ib_n (by omega) (by decide), x_ib_n (by omega) (by decide), ?_⟩
      intro S1 hS1
      have e : S1 = x_cp S 57 (33 * f) 57 (33 * t) (k + 1) := by
        rw [hS1]
        funext p j
        by_cases h1 : p = 57 ∧ j = 33 * t + k
        · rw [x_up_eq h1, x_cp_ne (by omega), x_cp_eq (by omega), h1.2, show 33 * t + k - 33 * t = k by omega]
        · rw [x_up_ne h1]
          by_cases h2 : p = 57 ∧ 33 * t ≤ j ∧ j < 33 * t + k
          · rw [x_cp_eq h2, x_cp_eq (by omega)]
          · rw [x_cp_ne h2, x_cp_ne (by omega)]
      rw [e]
      have hi := ih (k + 1) (by omega)
      rw [nI_succ] at hi
      exact hi
  have h0 := loop 33 0 rfl
  rw [show x_cp S 57 (33 * f) 57 (33 * t) 0 = S by funext p j; exact x_cp_ne (by omega)] at h0
  exact h0
theorem c_become {a b : Nat} (ha : x_tg a = 0) (hb : x_tg b = 0) (hab : a + 5 ≤ b ∨ b + 5 ≤ a) (h4 : S b 4 = 0 ∨ S b 4 = 1) : x_Cv xs (d + 1) 7 [.ref a, .ref b] S (fun S' => (∀ k, 4 ≤ k → k ≤ 9 → S' a k = S b k) ∧ (∀ k, k < 9 → S' (a + 1) k = S (b + 1) k) ∧ (∀ k, k < 112 → S' (a + 2) k = S (b + 2) k) ∧ (∀ k, k < 2 → S' (a + 3) k = S (b + 3) k) ∧ (∀ k, k < 2 → S' (a + 4) k = S (b + 4) k) ∧ ∀ p, ¬ (a ≤ p ∧ p ≤ a + 4) → S' p = S p) := by
  refine x_Cv_of (by rw [ml_7]; rfl) (T_7_0 ha hb ?_)
  rw [x_rr_g (j := 0) ha (by omega), x_rr_g (j := 1) ha (by omega), x_rr_g (j := 2) ha (by omega), x_rr_g (j := 3) ha (by omega), x_rr_g (j := 0) hb (by omega), x_rr_g (j := 1) hb (by omega), x_rr_g (j := 2) hb (by omega), x_rr_g (j := 3) hb (by omega)]
  intro S1 hS1 S2 hS2 S3 hS3 S4 hS4
  have k4 : ∀ p k, ¬ (a + 1 ≤ p ∧ p ≤ a + 4) → S4 p k = S p k := fun p k z => by rw [hS4, x_cp_ne (by omega), hS3, x_cp_ne (by omega), hS2, x_cp_ne (by omega), hS1, x_cp_ne (by omega)]
  have kb : ∀ k, S4 b k = S b k := fun k => k4 b k (by omega)
  refine ⟨by rw [kb]; exact h4, ?_⟩
  intro S5 hS5 S6 hS6 S7 hS7 S8 hS8 S9 hS9 S10 hS10
  have z5 : ∀ k, S5 b k = S b k := fun k => by rw [hS5, x_up_ne (by omega), kb]
  have z6 : ∀ k, S6 b k = S b k := fun k => by rw [hS6, x_up_ne (by omega), z5]
  have z7 : ∀ k, S7 b k = S b k := fun k => by rw [hS7, x_up_ne (by omega), z6]
  have z8 : ∀ k, S8 b k = S b k := fun k => by rw [hS8, x_up_ne (by omega), z7]
  have z9 : ∀ k, S9 b k = S b k := fun k => by rw [hS9, x_up_ne (by omega), z8]
  rw [kb] at hS5
  rw [z5] at hS6
  rw [z6] at hS7
  rw [z7] at hS8
  rw [z8] at hS9
  rw [z9] at hS10
  have kk : ∀ p, p ≠ a → S10 p = S4 p := fun p z => by rw [hS10, x_up_pl z, hS9, x_up_pl z, hS8, x_up_pl z, hS7, x_up_pl z, hS6, x_up_pl z, hS5, x_up_pl z]
  refine ⟨rfl, fun k y1 y2 => ?_, fun k y => ?_, fun k y => ?_, fun k y => ?_, fun k y => ?_, fun p y => ?_⟩
  · rcases (by omega : k = 4 ∨ k = 5 ∨ k = 6 ∨ k = 7 ∨ k = 8 ∨ k = 9) with rfl | rfl | rfl | rfl | rfl | rfl
    · rw [hS10, x_up_ne (by omega), hS9, x_up_ne (by omega), hS8, x_up_ne (by omega), hS7, x_up_ne (by omega), hS6, x_up_ne (by omega), hS5, x_up_at]
    · rw [hS10, x_up_ne (by omega), hS9, x_up_ne (by omega), hS8, x_up_ne (by omega), hS7, x_up_ne (by omega), hS6, x_up_at]
    · rw [hS10, x_up_ne (by omega), hS9, x_up_ne (by omega), hS8, x_up_ne (by omega), hS7, x_up_at]
    · rw [hS10, x_up_ne (by omega), hS9, x_up_ne (by omega), hS8, x_up_at]
    · rw [hS10, x_up_ne (by omega), hS9, x_up_at]
    · rw [hS10, x_up_at]
  · rw [kk _ (by omega), hS4, x_cp_ne (by omega), hS3, x_cp_ne (by omega), hS2, x_cp_ne (by omega), hS1, x_cp_eq (by omega)]
    congr 1
    omega
  · rw [kk _ (by omega), hS4, x_cp_ne (by omega), hS3, x_cp_ne (by omega), hS2, x_cp_eq (by omega), hS1, x_cp_ne (by omega)]
    congr 1
    omega
  · rw [kk _ (by omega), hS4, x_cp_ne (by omega), hS3, x_cp_eq (by omega), hS2, x_cp_ne (by omega), hS1, x_cp_ne (by omega)]
    show S (b + 1 + 2) _ = _
    congr 1
    omega
  · rw [kk _ (by omega), hS4, x_cp_eq (by omega), hS3, x_cp_ne (by omega), hS2, x_cp_ne (by omega), hS1, x_cp_ne (by omega)]
    show S (b + 1 + 3) _ = _
    congr 1
    omega
  · rw [kk _ (by omega)]
    funext k
    exact k4 p k (by omega)
theorem x_GI_mv {S S' : x_M} {g off g' off' : Nat} (h1 : ∀ k, 4 ≤ k → k ≤ 9 → S' g' k = S g k) (h2 : ∀ k, k < 9 → S' (g' + 1) k = S (g + 1) k) (h3 : ∀ k, k < 112 → S' (g' + 2) k = S (g + 2) k) (h4 : ∀ k, k < 2 → S' (g' + 3) k = S (g + 3) k) (h5 : ∀ k, k < 2 → S' (g' + 4) k = S (g + 4) k) (h6 : ∀ k, k < 33 → S' 57 (off' + k) = S 57 (off + k)) (H : x_GI S g off) : x_GI S' g' off' := by
  obtain ⟨n, g1, g2, g3, g4⟩ := H
  refine ⟨n, g1, by rw [h1 5 (by omega) (by omega)]; exact g2, by rw [h6 1 (by omega)]; exact g3, ?_⟩
  rw [h1 4 (by omega) (by omega), show S' 57 off' = S 57 off from h6 0 (by omega), h4 0 (by omega), h4 1 (by omega), h6 30 (by omega), h6 31 (by omega)]
  rcases g4 with g4 | ⟨a1, a2, a3, a4⟩
  · exact Or.inl g4
  · refine Or.inr ⟨a1, a2, a3, ?_⟩
    obtain ⟨⟨t1, t2⟩, A, ⟨c1, c2, c3, c4, c5, c6, c7, c8⟩, ⟨m1, m2, m3, m4, m5, m6, m7, m8⟩, w⟩ := x_GJ_A a4
    refine x_GJ_of (A := A) ⟨fun k hk => ?_, fun c hc => ?_⟩ ⟨?_, ?_, ?_, ?_, ?_, ?_, ?_, ?_⟩ ⟨?_, ?_, ?_, ?_, ?_, ?_, ?_, ?_⟩ w
    · rw [h2 k hk, show off' + 16 + k = off' + (16 + k) by omega, h6 (16 + k) (by omega), show off + (16 + k) = off + 16 + k by omega]
      exact t1 k hk
    · rw [show off' + 2 + c = off' + (2 + c) by omega, h6 (2 + c) (by omega), show off + (2 + c) = off + 2 + c by omega]
      refine ⟨(t2 c hc).1, fun w hw => ?_⟩
      rw [h3 _ (by omega)]
      exact (t2 c hc).2 w hw
    · exact (h1 6 (by omega) (by omega)).trans c1
    · exact (h1 7 (by omega) (by omega)).trans c2
    · exact (h1 8 (by omega) (by omega)).trans c3
    · exact (h1 9 (by omega) (by omega)).trans c4
    · exact (h4 0 (by omega)).trans c5
    · exact (h4 1 (by omega)).trans c6
    · exact (h5 0 (by omega)).trans c7
    · exact (h5 1 (by omega)).trans c8
    · exact (h6 25 (by omega)).trans m1
    · exact (h6 26 (by omega)).trans m2
    · exact (h6 27 (by omega)).trans m3
    · exact (h6 28 (by omega)).trans m4
    · exact (h6 29 (by omega)).trans m5
    · exact (h6 30 (by omega)).trans m6
    · exact (h6 31 (by omega)).trans m7
    · exact (h6 32 (by omega)).trans m8
end IMAGE
