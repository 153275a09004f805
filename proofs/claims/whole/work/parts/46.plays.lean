/-! PLAYS: a row of plays -/
def x_bec (S : x_M) (a b : Nat) : x_M := fun p k => if p = a ∧ 4 ≤ k ∧ k ≤ 9 then S b k else if p = a + 1 ∧ k < 9 then S (b + 1) k else if p = a + 2 ∧ k < 112 then S (b + 2) k else if p = a + 3 ∧ k < 2 then S (b + 3) k else if p = a + 4 ∧ k < 2 then S (b + 4) k else S p k
/-- the game after k plays -/
def x_its (L T : Nat → Int32) (it : Nat → Nat) (A : x_Ga) : Nat → x_Ga
  | 0 => A
  | k + 1 => x_stp L T (it k) (x_its L T it A k)
def x_sum (L T : Nat → Int32) (it : Nat → Nat) (A : x_Ga) : Nat → Int32
  | 0 => 0
  | k + 1 => x_sum L T it A k + (if x_Ah (x_its L T it A k) = 0 then x_gain L T (it k) (x_its L T it A k) else -x_gain L T (it k) (x_its L T it A k))
def x_can (L T : Nat → Int32) (it : Nat → Nat) (A : x_Ga) (k : Nat) : Bool := (x_hd (x_its L T it A k)).testBit (it k / 8)
theorem x_sum_e {L T : Nat → Int32} {it : Nat → Nat} {A : x_Ga} : ∀ k, (x_Ag0 (x_its L T it A k) - x_Ag1 (x_its L T it A k)) - (x_Ag0 A - x_Ag1 A) = x_sum L T it A k := by
  intro k
  induction k with
  | zero => exact Int32.sub_self _
  | succ k ih =>
    show (x_Ag0 (x_stp L T (it k) (x_its L T it A k)) - x_Ag1 (x_stp L T (it k) (x_its L T it A k))) - (x_Ag0 A - x_Ag1 A) = x_sum L T it A k + _
    rw [← ih]
    show ((if x_Ah (x_its L T it A k) = 0 then x_Ag0 (x_its L T it A k) + x_gain L T (it k) (x_its L T it A k) else x_Ag0 (x_its L T it A k)) - (if x_Ah (x_its L T it A k) = 0 then x_Ag1 (x_its L T it A k) else x_Ag1 (x_its L T it A k) + x_gain L T (it k) (x_its L T it A k))) - (x_Ag0 A - x_Ag1 A) = _
    by_cases h : x_Ah (x_its L T it A k) = 0
    · rw [if_pos h, if_pos h, if_pos h]
      grind
    · rw [if_neg h, if_neg h, if_neg h]
      grind
theorem x_its_w {L T : Nat → Int32} {it : Nat → Nat} {A : x_Ga} {n m : Nat} (hw : x_AW n A) (hn : n ≤ 14) (h : ∀ j, j < m → it j < 8 * n ∧ ∃ q : Nat, q < 512 ∧ L (it j) = nI q) : ∀ k, k ≤ m → x_AW n (x_its L T it A k) := by
  intro k
  induction k with
  | zero => intro _; exact hw
  | succ k ih =>
    intro hk
    have h1 := h k (by omega)
    exact x_AW_stp (ih (by omega)) h1.2 (by omega)
section PLAYS
variable {xs : List Int32} {d : Nat} {S : x_M}
theorem x_bec_1 {a b k : Nat} (h1 : 4 ≤ k) (h2 : k ≤ 9) : x_bec S a b a k = S b k := if_pos ⟨rfl, h1, h2⟩
theorem x_bec_2 {a b k : Nat} (h1 : k < 9) : x_bec S a b (a + 1) k = S (b + 1) k := by unfold x_bec; rw [if_neg (by omega), if_pos (by omega)]
theorem x_bec_3 {a b k : Nat} (h1 : k < 112) : x_bec S a b (a + 2) k = S (b + 2) k := by unfold x_bec; rw [if_neg (by omega), if_neg (by omega), if_pos (by omega)]
theorem x_bec_4 {a b k : Nat} (h1 : k < 2) : x_bec S a b (a + 3) k = S (b + 3) k := by unfold x_bec; rw [if_neg (by omega), if_neg (by omega), if_neg (by omega), if_pos (by omega)]
theorem x_bec_5 {a b k : Nat} (h1 : k < 2) : x_bec S a b (a + 4) k = S (b + 4) k := by unfold x_bec; rw [if_neg (by omega), if_neg (by omega), if_neg (by omega), if_neg (by omega), if_pos (by omega)]
theorem x_bec_0 {a b p k : Nat} (h1 : ¬ (p = a ∧ 4 ≤ k ∧ k ≤ 9)) (h2 : ¬ (p = a + 1 ∧ k < 9)) (h3 : ¬ (p = a + 2 ∧ k < 112)) (h4 : ¬ (p = a + 3 ∧ k < 2)) (h5 : ¬ (p = a + 4 ∧ k < 2)) : x_bec S a b p k = S p k := by unfold x_bec; rw [if_neg h1, if_neg h2, if_neg h3, if_neg h4, if_neg h5]
theorem c_bec {a b : Nat} (ha : x_tg a = 0) (hb : x_tg b = 0) (hab : a + 5 ≤ b ∨ b + 5 ≤ a) (h4 : S b 4 = 0 ∨ S b 4 = 1) : x_Cv xs (d + 1) 7 [.ref a, .ref b] S (fun S' => S' = x_bec S a b) := by
  refine x_Cv_of (by rw [ml_7]; rfl) (T_7_0 ha hb ?_)
  rw [x_rr_g (j := 0) ha (by omega), x_rr_g (j := 1) ha (by omega), x_rr_g (j := 2) ha (by omega), x_rr_g (j := 3) ha (by omega), x_rr_g (j := 0) hb (by omega), x_rr_g (j := 1) hb (by omega), x_rr_g (j := 2) hb (by omega), x_rr_g (j := 3) hb (by omega)]
  intro S1 hS1 S2 hS2 S3 hS3 S4 hS4
  have k4 : ∀ p k, ¬ (a + 1 ≤ p ∧ p ≤ a + 4) → S4 p k = S p k := fun p k z => by rw [hS4, x_cp_ne (by omega), hS3, x_cp_ne (by omega), hS2, x_cp_ne (by omega), hS1, x_cp_ne (by omega)]
  have kb : ∀ k, S4 b k = S b k := fun k => k4 b k (by omega)
  refine ⟨by rw [kb]; exact h4, ?_⟩
  intro S5 hS5 S6 hS6 S7 hS7 S8 hS8 S9 hS9 S10 hS10
  have z5 : ∀ k, S5 b k = S b k := fun k => by rw [hS5, x_up_ne (by omega), kb]
  have z6 : ∀ k, S6 b k = S b k := fun k => by rw [hS6, x_up_ne (by omega), z5]
  have z7 : ∀ k, S7 b k = S b k := fun k => by rw [hS7, x_up_ne (by omega), z6]
  have z8 : ∀ k, S8 b k = S b k := fun k => by rw [hS8, x_up_ne (by omega), z7]
  have z9 : ∀ k, S9 b k = S b k := fun k => by rw [hS9, x_up_ne (by omega), z8]
  rw [kb] at hS5
  rw [z5] at hS6
  rw [z6] at hS7
  rw [z7] at hS8
  rw [z8] at hS9
  rw [z9] at hS10
  have kk : ∀ p k, ¬ (p = a ∧ 4 ≤ k ∧ k ≤ 9) → S10 p k = S4 p k := fun p k z => by rw [hS10, x_up_ne (by omega), hS9, x_up_ne (by omega), hS8, x_up_ne (by omega), hS7, x_up_ne (by omega), hS6, x_up_ne (by omega), hS5, x_up_ne (by omega)]
  refine ⟨rfl, ?_⟩
  funext p k
  by_cases y1 : p = a ∧ 4 ≤ k ∧ k ≤ 9
  · obtain ⟨rfl, y1, y2⟩ := y1
    rw [x_bec_1 y1 y2]
    rcases (by omega : k = 4 ∨ k = 5 ∨ k = 6 ∨ k = 7 ∨ k = 8 ∨ k = 9) with rfl | rfl | rfl | rfl | rfl | rfl
    · rw [hS10, x_up_ne (by omega), hS9, x_up_ne (by omega), hS8, x_up_ne (by omega), hS7, x_up_ne (by omega), hS6, x_up_ne (by omega), hS5, x_up_at]
    · rw [hS10, x_up_ne (by omega), hS9, x_up_ne (by omega), hS8, x_up_ne (by omega), hS7, x_up_ne (by omega), hS6, x_up_at]
    · rw [hS10, x_up_ne (by omega), hS9, x_up_ne (by omega), hS8, x_up_ne (by omega), hS7, x_up_at]
    · rw [hS10, x_up_ne (by omega), hS9, x_up_ne (by omega), hS8, x_up_at]
    · rw [hS10, x_up_ne (by omega), hS9, x_up_at]
    · rw [hS10, x_up_at]
  · rw [kk p k y1]
    by_cases y2 : p = a + 1 ∧ k < 9
    · obtain ⟨rfl, y2⟩ := y2
      rw [x_bec_2 y2, hS4, x_cp_ne (by omega), hS3, x_cp_ne (by omega), hS2, x_cp_ne (by omega), hS1, x_cp_eq (by omega)]
      congr 1
      omega
    · by_cases y3 : p = a + 2 ∧ k < 112
      · obtain ⟨rfl, y3⟩ := y3
        rw [x_bec_3 y3, hS4, x_cp_ne (by omega), hS3, x_cp_ne (by omega), hS2, x_cp_eq (by omega), hS1, x_cp_ne (by omega)]
        show S (b + 1 + 1) _ = _
        congr 1
        omega
      · by_cases y4 : p = a + 3 ∧ k < 2
        · obtain ⟨rfl, y4⟩ := y4
          rw [x_bec_4 y4, hS4, x_cp_ne (by omega), hS3, x_cp_eq (by omega), hS2, x_cp_ne (by omega), hS1, x_cp_ne (by omega)]
          show S (b + 1 + 2) _ = _
          congr 1
          omega
        · by_cases y5 : p = a + 4 ∧ k < 2
          · obtain ⟨rfl, y5⟩ := y5
            rw [x_bec_5 y5, hS4, x_cp_eq (by omega), hS3, x_cp_ne (by omega), hS2, x_cp_ne (by omega), hS1, x_cp_ne (by omega)]
            show S (b + 1 + 3) _ = _
            congr 1
            omega
          · rw [x_bec_0 y1 y2 y3 y4 y5, hS4, x_cp_ne (by omega), hS3, x_cp_ne (by omega), hS2, x_cp_ne (by omega), hS1, x_cp_ne (by omega)]
theorem c_item {r m i : Nat} (hr : r < 8) (hm : S (30 + 2 * r) 3 = nI m) (hm4 : m ≤ 40) (hi : i < m) : x_Cr xs (d + 1) 27 [.ref (30 + 2 * r), .int (nI i)] S (S (31 + 2 * r) i) := by
  refine x_Ci_of (by rw [ml_27]; rfl) (T_27_0 (x_tg_row hr) ?_)
  rw [if_neg (nI_pos (by omega)), hm, if_neg (nI_ge hi (by omega)), if_neg (show ¬ (40 : Int32) ≤ nI i from nI_ge (b := 40) (by omega) (by decide)), nI_clamp (by omega), x_rr_w (x_tg_row hr), show 30 + 2 * r + 1 = 31 + 2 * r by omega]
  exact ⟨x_ib_n (by omega) (by decide), x_rt_i rfl⟩
theorem c_arePlays {r m i n : Nat} {c : Nat} (hr : r < 8) (hm : S (30 + 2 * r) 3 = nI m) (hm4 : m ≤ 40) (hi : i + n ≤ m) (hc : S 12 5 = nI c) : x_Cr xs (d + 2) 65 [.ref 8, .ref (30 + 2 * r), .int (nI i), .int (nI n)] S (x_b (decide (∀ j, j < n → 0 ≤ S (31 + 2 * r) (i + j) ∧ S (31 + 2 * r) (i + j) < 8 * nI c))) := by
  refine x_Ci_of (by rw [ml_65]; rfl) (T_65_0 (x_tg_row hr) ?_)
  have loop : ∀ q k, k + q = n → (∀ j, j < k → 0 ≤ S (31 + 2 * r) (i + j) ∧ S (31 + 2 * r) (i + j) < 8 * nI c) → ∀ a5 : Value, x_E xs (d + 2) 65 3 [.ref 8, .ref (30 + 2 * r), .int (nI i), .int (nI n), .int (nI k), a5] [] S (fun r' S' => ∃ v : Int32, r' = some (.int v) ∧ v = x_b (decide (∀ j, j < n → 0 ≤ S (31 + 2 * r) (i + j) ∧ S (31 + 2 * r) (i + j) < 8 * nI c)) ∧ S' = S) := by
    intro q
    induction q with
    | zero =>
      intro k hk hall a5
      have hkn : k = n := by omega
      subst hkn
      refine T_65_3 (x_tg_row hr) ?_
      rw [if_pos (Int32.le_refl _)]
      exact x_rt_i (x_b_t (decide_eq_true hall))
    | succ q ih =>
      intro k hk hall a5
      refine T_65_3 (x_tg_row hr) ?_
      rw [if_neg (nI_ge (by omega) (by omega)), nI_add]
      refine x_rd (c_item hr hm hm4 (by omega)) ?_
      split
      next h => exact x_rt_i (x_b_f (fun z => by rw [decide_eq_true_eq] at z; exact absurd (z k (by omega)).1 (Int32.not_le.mpr h)))
      next h =>
        rw [hc]
        split
        next h2 =>
          rw [← nI_succ]
          refine ih (k + 1) (by omega) (fun j hj => ?_) _
          by_cases hjk : j = k
          · subst hjk
            exact ⟨Int32.not_lt.mp h, h2⟩
          · exact hall j (by omega)
        next h2 => exact x_rt_i (x_b_f (fun z => by rw [decide_eq_true_eq] at z; exact absurd (z k (by omega)).2 h2))
  exact loop n 0 (by omega) (fun j hj => by omega) _
/-- what layAll comes to -/
theorem c_layAll {r m i n c : Nat} {A : x_Ga} {it : Nat → Nat} {L T : Nat → Int32} (hr : r < 8) (hm : S (30 + 2 * r) 3 = nI m) (hm4 : m ≤ 40) (hi : i + n ≤ m) (hc : S 17 5 = nI c) (hc4 : c ≤ 14)
    (hit : ∀ j, j < n → it j < 8 * c ∧ S (31 + 2 * r) (i + j) = nI (it j)) (hL : ∀ v, v < 8 * c → S 19 v = L v ∧ ∃ q : Nat, q < 512 ∧ L v = nI q) (hT : ∀ k, k < 9 → S 18 k = T k) (hC : x_GC S 17 A) (hw : x_AW c A) :
    x_Ci xs (d + 4) 66 [.ref 17, .ref (30 + 2 * r), .int (nI i), .int (nI n)] S (fun v S' => (v = if (∀ k, k < n → x_can L T it A k = true) then 1 else 0) ∧ ((∀ k, k < n → x_can L T it A k = true) → x_GC S' 17 (x_its L T it A n)) ∧ ∀ p k, ¬ (p = 17 ∧ 6 ≤ k ∧ k ≤ 9) → p ≠ 20 → p ≠ 21 → S' p k = S p k) := by
  have hwk := x_its_w (T := T) hw hc4 (fun j hj => ⟨(hit j hj).1, (hL _ (hit j hj).1).2⟩)
  refine x_Ci_of (by rw [ml_66]; rfl) (T_66_0 (by decide) (x_tg_row hr) ?_)
  have loop : ∀ q k (U : x_M), k + q = n → (∀ j, j < k → x_can L T it A j = true) → x_GC U 17 (x_its L T it A k) → (∀ p k, ¬ (p = 17 ∧ 6 ≤ k ∧ k ≤ 9) → p ≠ 20 → p ≠ 21 → U p k = S p k) → ∀ a5 : Value, x_E xs (d + 4) 66 3 [.ref 17, .ref (30 + 2 * r), .int (nI i), .int (nI n), .int (nI k), a5] [] U (fun r' S' => ∃ v : Int32, r' = some (.int v) ∧ (v = if (∀ k, k < n → x_can L T it A k = true) then 1 else 0) ∧ ((∀ k, k < n → x_can L T it A k = true) → x_GC S' 17 (x_its L T it A n)) ∧ ∀ p k, ¬ (p = 17 ∧ 6 ≤ k ∧ k ≤ 9) → p ≠ 20 → p ≠ 21 → S' p k = S p k) := by
    intro q
    induction q with
    | zero =>
      intro k U hk hall hU hag a5
      have hkn : k = n := by omega
      subst hkn
      refine T_66_3 (by decide) (x_tg_row hr) ?_
      rw [if_pos (Int32.le_refl _)]
      exact ⟨1, rfl, (if_pos hall).symm, fun _ => hU, hag⟩
    | succ q ih =>
      intro k U hk hall hU hag a5
      have hk' := hit k (by omega)
      refine T_66_3 (by decide) (x_tg_row hr) ?_
      rw [if_neg (nI_ge (by omega) (by omega)), nI_add]
      refine x_rd (c_item hr (by rw [hag _ _ (by omega) (by omega) (by omega)]; exact hm) hm4 (by omega)) ?_
      rw [hag (31 + 2 * r) _ (by omega) (by omega) (by omega), hk'.2, show nI (it k) - nI (it k) / 8 * 8 = nI (it k % 8) from nI_rem (b := 8) (by omega) (by omega), show nI (it k) / 8 = nI (it k / 8) from nI_div (b := 8) (by omega) (by omega)]
      have hn5 : U 17 5 = nI c := by rw [hag _ _ (by omega) (by omega) (by omega)]; exact hc
      refine x_rd (c_mayLay (by decide) hn5 hc4 (by omega) hU (hwk k (by omega))) ?_
      split
      next h =>
        rw [x_b_0] at h
        exact ⟨0, rfl, (if_neg (fun z => h (z k (by omega)))).symm, fun z => absurd (z k (by omega)) h, hag⟩
      next h =>
        have h : x_can L T it A k = true := Decidable.not_not.mp (fun z => h (x_b_0.mpr z))
        refine ⟨_, c_lay (by decide) hn5 hc4 (by omega) (by omega) hU (hwk k (by omega)) h, ?_⟩
        rintro v U2 ⟨u1, u2, u3⟩
        rw [← nI_succ]
        refine ih (k + 1) U2 (by omega) (fun j hj => ?_) ?_ (fun p j z1 z2 z3 => by rw [u3 p j z1 z2 z3, hag p j z1 z2 z3]) _
        · by_cases hjk : j = k
          · subst hjk
            exact h
          · exact hall j (by omega)
        · show x_GC U2 17 (x_stp L T (it k) (x_its L T it A k))
          have e1 : U (17 + 2) (it k) = L (it k) := by rw [hag 19 _ (by omega) (by omega) (by omega)]; exact (hL _ hk'.1).1
          have e2 : ∀ P, x_wsum (U (17 + 1)) P 9 = x_wsum T P 9 := fun P => x_wsum_c 9 (fun j hj => by rw [hag 18 _ (by omega) (by omega) (by omega)]; exact hT j hj)
          rw [show 8 * (it k / 8) + it k % 8 = it k by omega, x_stp_c e1 e2] at u2
          exact u2
  exact loop n 0 S (by omega) (fun j hj => by omega) hC (fun p k _ _ _ => rfl) _
end PLAYS
