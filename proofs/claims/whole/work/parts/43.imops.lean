section IMOPS
variable {xs : List Int32} {d : Nat} {S : x_M}
theorem x_GI_01 {g off : Nat} (h : x_GI S g off) : S g 4 = 0 ∨ S g 4 = 1 := by
  obtain ⟨n, g1, g2, g3, g4⟩ := h
  rcases g4 with g4 | g4
  · exact Or.inl g4.1
  · exact Or.inr g4.1
theorem x_GI_at {g off : Nat} (h : x_GI S g off) : (S g 4 = 0 ↔ S 57 off = 0) := by
  obtain ⟨n, g1, g2, g3, g4⟩ := h
  rcases g4 with g4 | g4
  · rw [g4.1, g4.2.1]
  · rw [g4.1, g4.2.1]
theorem x_in01 {a : Int32} : decide ((0 : Int64) ≤ a.toInt64 ∧ a.toInt64 ≤ (1 : Int64)) = decide (0 ≤ a ∧ a ≤ 1) := by
  rw [show (1 : Int64) = (1 : Int32).toInt64 by decide, x_in0]
theorem x_01_n {a : Int32} (h : 0 ≤ a ∧ a ≤ 1) : ∃ k, k < 2 ∧ a = nI k := by
  obtain ⟨k, hk, e⟩ := x_le_nat (n := 1) (Int32.not_lt.mpr h.1) h.2 (by decide)
  exact ⟨k, by omega, e⟩
theorem x_lt2 {a : Int32} : a < 2 ↔ a ≤ 1 := by
  have e8 : (2 : Int32).toInt = 2 := by decide
  have e7 : (1 : Int32).toInt = 1 := by decide
  rw [Int32.lt_iff_toInt_lt, Int32.le_iff_toInt_le, e7, e8]
  omega
theorem o_image {a : Int32} (H : x_Inv S) : x_Op xs (d + 2) 85 156 [.int a] S := by
  by_cases hb : 0 ≤ a ∧ a ≤ 1
  · obtain ⟨k, hk, rfl⟩ := x_01_n hb
    have hG := H.2.2.1.1
    by_cases h0 : S 12 4 = 0
    · have h0' := (x_GI_at hG).mp h0
      refine x_Op_rd (v := -1000002) H ?_ ?_
      · refine x_Ci_of (by rw [ml_85]; rfl) (T_85_0 ?_)
        rw [if_neg (nI_pos (by omega)), if_pos (x_lt2.mpr hb.2), if_pos h0]
        exact x_rt_i rfl
      · refine x_Ci_of (by rw [ml_156]; rfl) (T_156_0 (x_rd c_in ?_))
        rw [x_in01, if_neg (x_b_ne (by rw [decide_eq_true_eq]; exact hb)), if_pos h0']
        exact x_rt_i rfl
    · have h0' : ¬ S 57 0 = 0 := fun z => h0 ((x_GI_at hG).mpr z)
      have hx : x_Ci xs (d + 2) 85 [.ref 8, .int (nI k)] S (fun v S' => v = 1 ∧ (∀ j, 4 ≤ j → j ≤ 9 → S' (46 + 5 * k) j = S 12 j) ∧ (∀ j, j < 9 → S' (46 + 5 * k + 1) j = S (12 + 1) j) ∧ (∀ j, j < 112 → S' (46 + 5 * k + 2) j = S (12 + 2) j) ∧ (∀ j, j < 2 → S' (46 + 5 * k + 3) j = S (12 + 3) j) ∧ (∀ j, j < 2 → S' (46 + 5 * k + 4) j = S (12 + 4) j) ∧ ∀ p, ¬ (46 + 5 * k ≤ p ∧ p ≤ 46 + 5 * k + 4) → S' p = S p) := by
        refine x_Ci_of (by rw [ml_85]; rfl) (T_85_0 ?_)
        rw [if_neg (nI_pos (by omega)), if_pos (x_lt2.mpr hb.2), if_neg h0, nI_clamp (by omega), x_rr_22 hk]
        refine ⟨x_ib_n hk (by decide), _, c_become (x_tg_img hk) (by decide) (by omega) (x_GI_01 hG), ?_⟩
        intro S2 h2
        exact ⟨_, rfl, rfl, h2⟩
      refine x_Ci_weak hx ?_
      rintro v S1 ⟨rfl, q1, q2, q3, q4, q5, q6⟩
      have hz : x_Ci xs (d + 2) 156 [.ref 56, .int (nI k)] S1 (fun v S' => v = 1 ∧ S' = x_cp S1 57 0 57 (33 * (1 + k)) 33) := by
        refine x_Ci_of (by rw [ml_156]; rfl) (T_156_0 (x_rd c_in ?_))
        rw [x_in01, if_neg (x_b_ne (by rw [decide_eq_true_eq]; exact hb)), q6 57 (by omega), if_neg h0', show (1 : Int32) + nI k = nI (1 + k) from nI_add 1 k]
        refine ⟨_, c_move (f := 0) (by omega) (by omega) (by omega), ?_⟩
        intro S2 h2
        exact ⟨_, rfl, rfl, h2⟩
      refine x_Ci_weak hz ?_
      rintro w S2 ⟨rfl, hS2⟩
      refine ⟨rfl, ?_⟩
      have key : ∀ p j, ¬ (46 + 5 * k ≤ p ∧ p ≤ 46 + 5 * k + 4) → ¬ (p = 57 ∧ 33 * (1 + k) ≤ j ∧ j < 33 * (1 + k) + 33) → S2 p j = S p j := fun p j z1 z2 => by rw [hS2, x_cp_ne z2, q6 p z1]
      have e57 : ∀ j, j < 33 → S2 57 (33 * (1 + k) + j) = S 57 (0 + j) := fun j hj => by rw [hS2, x_cp_eq (by omega), q6 57 (by omega)]; congr 1; omega
      have keyp : ∀ p, 46 + 5 * k ≤ p → p ≤ 46 + 5 * k + 4 → S2 p = S1 p := fun p z1 z2 => by funext j; rw [hS2, x_cp_ne (by omega)]
      have gk : x_GI S2 (46 + 5 * k) (33 * (1 + k)) := by
        refine x_GI_mv ?_ ?_ ?_ ?_ ?_ e57 hG
        · intro j y1 y2; rw [keyp _ (by omega) (by omega)]; exact q1 j y1 y2
        · intro j y1; rw [keyp _ (by omega) (by omega)]; exact q2 j y1
        · intro j y1; rw [keyp _ (by omega) (by omega)]; exact q3 j y1
        · intro j y1; rw [keyp _ (by omega) (by omega)]; exact q4 j y1
        · intro j y1; rw [keyp _ (by omega) (by omega)]; exact q5 j y1
      obtain ⟨h1, h2, ⟨h3, h4, h5⟩, h6, h7, h8⟩ := H
      refine ⟨fun r hr => x_RI_c hr (fun p q hp => key p q (by omega) (by omega)) (h1 r hr), x_TI_c (fun p q hp => key p q (by omega) (by omega)) h2, ⟨x_GI_c (fun p q hp => key p q (by omega) (by omega)) h3, ?_, ?_⟩, x_UI_c (fun p q hp => key p q (by omega) (by omega)) h6, x_BI_c (fun p q hp => key p q (by omega) (by omega)) h7, x_FI_c (fun p q hp => key p q (by omega) (by omega)) h8⟩
      · rcases (by omega : k = 0 ∨ k = 1) with rfl | rfl
        · exact gk
        · exact x_GI_c (fun p q hp => key p q (by omega) (by omega)) h4
      · rcases (by omega : k = 0 ∨ k = 1) with rfl | rfl
        · exact x_GI_c (fun p q hp => key p q (by omega) (by omega)) h5
        · exact gk
  · refine x_Op_rd (v := -1000001) H ?_ ?_
    · refine x_Ci_of (by rw [ml_85]; rfl) (T_85_0 ?_)
      split
      next => exact x_rt_i rfl
      next z1 => rw [if_neg (fun z => hb ⟨Int32.not_lt.mp z1, x_lt2.mp z⟩)]; exact x_rt_i rfl
    · refine x_Ci_of (by rw [ml_156]; rfl) (T_156_0 (x_rd c_in ?_))
      rw [x_in01, if_pos (x_b_0.mpr (fun z => hb (by rw [decide_eq_true_eq] at z; exact z)))]
      exact x_rt_i rfl
theorem o_restore {a : Int32} (H : x_Inv S) : x_Op xs (d + 4) 86 158 [.int a] S := by
  by_cases hb : 0 ≤ a ∧ a ≤ 1
  · obtain ⟨k, hk, rfl⟩ := x_01_n hb
    have hG : x_GI S (46 + 5 * k) (33 * (1 + k)) := by
      rcases (by omega : k = 0 ∨ k = 1) with rfl | rfl
      · exact H.2.2.1.2.1
      · exact H.2.2.1.2.2
    have e33 : (33 : Int32) * (1 + nI k) + 0 = nI (33 * (1 + k)) := by rw [Int32.add_zero, show (1 : Int32) + nI k = nI (1 + k) from nI_add 1 k]; exact nI_mul 33 _
    by_cases h0 : S (46 + 5 * k) 4 = 0
    · have h0' := (x_GI_at hG).mp h0
      refine x_Op_rd (v := -1000002) H ?_ ?_
      · refine x_Ci_of (by rw [ml_86]; rfl) (T_86_0 ?_)
        rw [if_neg (nI_pos (by omega)), if_pos (x_lt2.mpr hb.2), nI_clamp (by omega), x_rr_22 hk, if_pos h0]
        exact ⟨x_ib_n hk (by decide), x_rt_i rfl⟩
      · refine x_Ci_of (by rw [ml_158]; rfl) (T_158_0 (x_rd c_in ?_))
        rw [x_in01, if_neg (x_b_ne (by rw [decide_eq_true_eq]; exact hb)), e33, nI_clamp (by omega), if_pos h0']
        exact ⟨x_ib_n (by omega) (by decide), x_rt_i rfl⟩
    · have h0' : ¬ S 57 (33 * (1 + k)) = 0 := fun z => h0 ((x_GI_at hG).mpr z)
      have hx : x_Ci xs (d + 4) 86 [.ref 8, .int (nI k)] S (fun v S' => v = 1 ∧ (∀ j, 4 ≤ j → j ≤ 9 → S' 12 j = S (46 + 5 * k) j) ∧ (∀ j, j < 9 → S' (12 + 1) j = S (46 + 5 * k + 1) j) ∧ (∀ j, j < 112 → S' (12 + 2) j = S (46 + 5 * k + 2) j) ∧ (∀ j, j < 2 → S' (12 + 3) j = S (46 + 5 * k + 3) j) ∧ (∀ j, j < 2 → S' (12 + 4) j = S (46 + 5 * k + 4) j) ∧ ∀ p, ¬ (12 ≤ p ∧ p ≤ 12 + 4) → S' p = S p) := by
        refine x_Ci_of (by rw [ml_86]; rfl) (T_86_0 ?_)
        rw [if_neg (nI_pos (by omega)), if_pos (x_lt2.mpr hb.2), nI_clamp (by omega), x_rr_22 hk, if_neg h0]
        refine ⟨x_ib_n hk (by decide), x_ib_n hk (by decide), _, c_become (by decide) (x_tg_img hk) (by omega) (x_GI_01 hG), ?_⟩
        intro S2 h2
        exact ⟨_, rfl, rfl, h2⟩
      refine x_Ci_weak hx ?_
      rintro v S1 ⟨rfl, q1, q2, q3, q4, q5, q6⟩
      obtain ⟨n, g1, g2, g3, g4⟩ := hG
      have hz : x_Ci xs (d + 4) 158 [.ref 56, .int (nI k)] S1 (fun v S' => v = 1 ∧ (∀ c w, c < n → w < 8 → S' 66 (8 * c + w) = x_lieF (x_cp S1 57 (33 * (1 + k)) 57 0 33 57 (2 + c)) w) ∧ ∀ p, p ≠ 66 → S' p = x_cp S1 57 (33 * (1 + k)) 57 0 33 p) := by
        refine x_Ci_of (by rw [ml_158]; rfl) (T_158_0 (x_rd c_in ?_))
        rw [x_in01, if_neg (x_b_ne (by rw [decide_eq_true_eq]; exact hb)), e33, nI_clamp (by omega), q6 57 (by omega), if_neg h0', show (1 : Int32) + nI k = nI (1 + k) from nI_add 1 k]
        refine ⟨x_ib_n (by omega) (by decide), _, c_move (t := 0) (by omega) (by omega) (by omega), ?_⟩
        rintro S2 rfl
        have e57 : ∀ j, j < 33 → x_cp S1 57 (33 * (1 + k)) 57 (33 * 0) 33 57 j = S 57 (33 * (1 + k) + j) := fun j hj => by rw [x_cp_eq (by omega), q6 57 (by omega)]; congr 1
        refine ⟨_, c_layTurned (n := n) (by rw [e57 1 (by omega)]; exact g3) g1 ?_, ?_⟩
        · intro c hc
          rw [e57 (2 + c) (by omega)]
          rcases g4 with g4 | ⟨a1, a2, a3, a4⟩
          · omega
          · obtain ⟨⟨t1, t2⟩, _⟩ := x_GJ_A a4
            have := (t2 c hc).1
            rw [show 33 * (1 + k) + 2 + c = 33 * (1 + k) + (2 + c) by omega] at this
            exact this
        · intro S3 h3
          exact ⟨_, rfl, rfl, h3⟩
      refine x_Ci_weak hz ?_
      rintro w S2 ⟨rfl, r1, r2⟩
      refine ⟨rfl, ?_⟩
      have key : ∀ p j, ¬ (12 ≤ p ∧ p ≤ 12 + 4) → p ≠ 66 → ¬ (p = 57 ∧ j < 33) → S2 p j = S p j := fun p j z1 z2 z3 => by rw [r2 p z2, x_cp_ne (by omega), q6 p z1]
      have e57 : ∀ j, j < 33 → S2 57 (0 + j) = S 57 (33 * (1 + k) + j) := fun j hj => by rw [r2 57 (by omega), x_cp_eq (by omega), q6 57 (by omega)]; congr 1; omega
      have keyp : ∀ p, 12 ≤ p → p ≤ 12 + 4 → S2 p = S1 p := fun p z1 z2 => by rw [r2 p (by omega)]; funext j; rw [x_cp_ne (by omega)]
      have gk : x_GI S2 12 0 := by
        refine x_GI_mv (g := 46 + 5 * k) (off := 33 * (1 + k)) ?_ ?_ ?_ ?_ ?_ e57 ⟨n, g1, g2, g3, g4⟩
        · intro j y1 y2; rw [keyp _ (by omega) (by omega)]; exact q1 j y1 y2
        · intro j y1; rw [keyp _ (by omega) (by omega)]; exact q2 j y1
        · intro j y1; rw [keyp _ (by omega) (by omega)]; exact q3 j y1
        · intro j y1; rw [keyp _ (by omega) (by omega)]; exact q4 j y1
        · intro j y1; rw [keyp _ (by omega) (by omega)]; exact q5 j y1
      obtain ⟨h1, h2, ⟨h3, h4, h5⟩, h6, h7, h8⟩ := H
      refine ⟨fun r hr => x_RI_c hr (fun p q hp => key p q (by omega) (by omega) (by omega)) (h1 r hr), x_TI_c (fun p q hp => key p q (by omega) (by omega) (by omega)) h2, ⟨gk, x_GI_c (fun p q hp => key p q (by omega) (by omega) (by omega)) h4, x_GI_c (fun p q hp => key p q (by omega) (by omega) (by omega)) h5⟩, ?_, x_BI_c (fun p q hp => key p q (by omega) (by omega) (by omega)) h7, x_FI_c (fun p q hp => key p q (by omega) (by omega) (by omega)) h8⟩
      intro m c w e1 e2 e3 e4
      have e5 := e57 1 (by omega)
      rw [Nat.zero_add] at e5
      rw [e5, g3] at e2
      have hmm : n = m := (nI_eq (by omega) (by omega)).mp e2
      subst hmm
      rw [r1 c w e3 e4, r2 57 (by omega)]
  · refine x_Op_rd (v := -1000001) H ?_ ?_
    · refine x_Ci_of (by rw [ml_86]; rfl) (T_86_0 ?_)
      split
      next => exact x_rt_i rfl
      next z1 => rw [if_neg (fun z => hb ⟨Int32.not_lt.mp z1, x_lt2.mp z⟩)]; exact x_rt_i rfl
    · refine x_Ci_of (by rw [ml_158]; rfl) (T_158_0 (x_rd c_in ?_))
      rw [x_in01, if_pos (x_b_0.mpr (fun z => hb (by rw [decide_eq_true_eq] at z; exact z)))]
      exact x_rt_i rfl
end IMOPS
