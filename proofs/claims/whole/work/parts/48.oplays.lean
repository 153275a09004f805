section OPLAYS
variable {xs : List Int32} {d : Nat} {S : x_M}
set_option maxHeartbeats 2000000 in
theorem o_plays {r i n : Int32} (H : x_Inv S) : x_Op xs (d + 5) 64 133 [.int r, .int i, .int n] S := by
  obtain ⟨c, n1, n2, n3, n4⟩ := x_view H
  have e14 : (14 : Int32).toInt = (14 : Nat) := by decide
  rcases n4 with ⟨p1, p2, _⟩ | ⟨p1, p2, p3, p4⟩
  case inl =>
    refine x_Op_rd (v := -1000002) H ?_ ?_
    · refine x_Ci_of (by rw [ml_64]; rfl) (T_64_0 ?_)
      rw [if_pos p1]
      exact x_rt_i rfl
    · refine x_Ci_of (by rw [ml_133]; rfl) (T_133_0 ?_)
      rw [if_pos p2]
      exact x_rt_i rfl
  case inr =>
  by_cases hb : 0 ≤ r ∧ r ≤ 7
  case neg =>
    refine x_Op_rd (v := -1000001) H ?_ ?_
    · refine x_Ci_of (by rw [ml_64]; rfl) (T_64_0 ?_)
      rw [p1, if_neg (by decide)]
      refine x_rd c_isRow ?_
      rw [if_pos (x_row_b hb)]
      exact x_rt_i rfl
    · refine x_Ci_of (by rw [ml_133]; rfl) (T_133_0 ?_)
      rw [p2, if_neg (by decide)]
      refine x_rd c_isRowM ?_
      rw [if_pos (x_row_b hb)]
      exact x_rt_i rfl
  case pos =>
  obtain ⟨a, ha, rfl⟩ := x_row_n (r := r) (by simpa using hb)
  by_cases hn : 1 ≤ n ∧ n ≤ 14
  case neg =>
    refine x_Op_rd (v := -1000001) H ?_ ?_
    · refine x_Ci_of (by rw [ml_64]; rfl) (T_64_0 ?_)
      rw [p1, if_neg (by decide)]
      refine x_rd c_isRow ?_
      rw [if_neg (x_b_ne (x_row_d ha))]
      by_cases h1 : n < 1
      · rw [if_pos h1]; exact x_rt_i rfl
      · rw [if_neg h1, if_neg (fun z => hn ⟨Int32.not_lt.mp h1, z⟩)]; exact x_rt_i rfl
    · refine x_Ci_of (by rw [ml_133]; rfl) (T_133_0 ?_)
      rw [p2, if_neg (by decide)]
      refine x_rd c_isRowM ?_
      rw [if_neg (x_b_ne (x_row_d ha))]
      refine x_rd c_in ?_
      rw [x_in1 (b := 14) (by decide), if_pos (x_b_0.mpr (fun z => hn (by rw [decide_eq_true_eq] at z; exact z)))]
      exact x_rt_i rfl
  case pos =>
  -- up to the row
  have preC : ∀ Q : Option Value → x_M → Prop, (if S (30 + 2 * a) 1 = 0 then (∃ P10 : Int32 → x_M → Prop, x_Ci xs (d + 4) 45 [.ref 8, .int 1] S P10 ∧ ∀ (v10 : Int32) (S10 : x_M), P10 v10 S10 → (Q (some (.int v10)) S10)) else (∃ P3 : Int32 → x_M → Prop, x_Ci xs (d + 4) 25 [.ref (30 + 2 * a), .int i, .int n] S P3 ∧ ∀ (v3 : Int32) (S3 : x_M), P3 v3 S3 → (if v3 = 0 then (∃ P9 : Int32 → x_M → Prop, x_Ci xs (d + 4) 45 [.ref 8, .int 2] S3 P9 ∧ ∀ (v9 : Int32) (S9 : x_M), P9 v9 S9 → (Q (some (.int v9)) S9)) else (∃ P4 : Int32 → x_M → Prop, x_Ci xs (d + 4) 65 [.ref 8, .ref (30 + 2 * a), .int i, .int n] S3 P4 ∧ ∀ (v4 : Int32) (S4 : x_M), P4 v4 S4 → (if v4 = 0 then (Q (some (.int (-1000001))) S4) else (∃ P5 : x_M → Prop, x_Cv xs (d + 4) 7 [.ref 17, .ref 12] S4 P5 ∧ ∀ (S5 : x_M), P5 S5 → (∃ P6 : Int32 → x_M → Prop, x_Ci xs (d + 4) 66 [.ref 17, .ref (30 + 2 * a), .int i, .int n] S5 P6 ∧ ∀ (v6 : Int32) (S6 : x_M), P6 v6 S6 → (if v6 = 0 then (Q (some (.int (-1000002))) S6) else (∃ P7 : x_M → Prop, x_Cv xs (d + 4) 7 [.ref 12, .ref 17] S6 P7 ∧ ∀ (S7 : x_M), P7 S7 → (∃ P8 : Int32 → x_M → Prop, x_Ci xs (d + 4) 46 [.ref 8, .int (((S7 16 0) - (S7 16 1)) - ((S6 16 0) - (S6 16 1)))] S7 P8 ∧ ∀ (v8 : Int32) (S8 : x_M), P8 v8 S8 → (Q (some (.int v8)) S8))))))))))) → x_E xs (d + 5) 64 0 [.ref 8, .int (nI a), .int i, .int n, .null, .null] [] S Q := by
    intro Q hQ
    refine T_64_0 ?_
    rw [p1, if_neg (by decide)]
    refine x_rd c_isRow ?_
    rw [if_neg (x_b_ne (x_row_d ha)), if_neg (fun z => x_lt1.mp z hn.1), if_pos hn.2, nI_clamp (n := a) (by omega), x_rr_9 ha]
    exact ⟨x_ib_n ha (by decide), hQ⟩
  have preM : ∀ (T : x_M) (Q : Option Value → x_M → Prop), T 57 0 = 1 → T 59 a = S 59 a → (if S 59 a = -1000000 then (∃ P6 : Int32 → x_M → Prop, x_Ci xs (d + 4) 102 [.ref 56, .int 1] T P6 ∧ ∀ (v6 : Int32) (S6 : x_M), P6 v6 S6 → (Q (some (.int v6)) S6)) else (∃ P3 : Int32 → x_M → Prop, x_Ci xs (d + 4) 106 [.ref 56, .int (nI a), .int i, .int n] T P3 ∧ ∀ (v3 : Int32) (S3 : x_M), P3 v3 S3 → (if v3 = 0 then (∃ P5 : Int32 → x_M → Prop, x_Ci xs (d + 4) 102 [.ref 56, .int 2] S3 P5 ∧ ∀ (v5 : Int32) (S5 : x_M), P5 v5 S5 → (Q (some (.int v5)) S5)) else (∃ P4 : Int32 → x_M → Prop, x_Ci xs (d + 4) 134 [.ref 56, .int ((40 * nI a) + i), .int n] S3 P4 ∧ ∀ (v4 : Int32) (S4 : x_M), P4 v4 S4 → (if v4 = 0 then (x_E xs (d + 5) 133 94 [.ref 56, .int (nI a), .int i, .int n, .int v4, .int 0, .int 0, .null, .null] [] S4 Q) else (Q (some (.int v4)) S4)))))) → x_E xs (d + 5) 133 0 [.ref 56, .int (nI a), .int i, .int n, .null, .null, .null, .null, .null] [] T Q := by
    intro T Q t1 t2 hQ
    refine T_133_0 ?_
    rw [t1, if_neg (by decide)]
    refine x_rd c_isRowM ?_
    rw [if_neg (x_b_ne (x_row_d ha))]
    refine x_rd c_in ?_
    rw [x_in1 (b := 14) (by decide), if_neg (x_b_ne (by rw [decide_eq_true_eq]; exact hn)), nI_clamp (n := a) (by omega), t2]
    exact ⟨x_ib_n ha (by decide), hQ⟩
  rcases H.1 a ha with ⟨a1, a2, a3, m, a4, a5, a6, a7⟩ | ⟨a1, a2⟩
  case inr =>
    refine x_fnd (a := 1) H ?_ (fun T hT => ?_)
    · refine x_Ci_of (by rw [ml_64]; rfl) (preC _ ?_)
      rw [if_pos a1]
      refine ⟨_, c_found, ?_⟩
      rintro w S1 ⟨rfl, rfl⟩
      exact ⟨_, rfl, rfl, rfl⟩
    · refine x_Ci_of (by rw [ml_133]; rfl) (preM T _ ((hT 57 0 (by omega)).trans p2) (hT 59 a (by omega)) ?_)
      rw [if_pos a2]
      refine ⟨_, c_find, ?_⟩
      rintro w S1 ⟨rfl, rfl⟩
      exact ⟨_, rfl, rfl, rfl⟩
  case inl =>
  have ha1 : ¬ S (30 + 2 * a) 1 = 0 := by rw [a1]; decide
  have ha2 : ¬ S 59 a = -1000000 := by rw [a3]; exact x_l0 a2
  by_cases hi : x_span i n m = true
  case neg =>
    refine x_fnd (a := 2) H ?_ (fun T hT => ?_)
    · refine x_Ci_of (by rw [ml_64]; rfl) (preC _ ?_)
      rw [if_neg ha1]
      refine x_rd (c_holds (x_tg_row ha) a5 a4) ?_
      rw [if_pos (x_b_0.mpr hi)]
      refine ⟨_, c_found, ?_⟩
      rintro w S1 ⟨rfl, rfl⟩
      exact ⟨_, rfl, rfl, rfl⟩
    · refine x_Ci_of (by rw [ml_133]; rfl) (preM T _ ((hT 57 0 (by omega)).trans p2) (hT 59 a (by omega)) ?_)
      rw [if_neg ha2]
      refine x_rd (c_spanM ha (by rw [hT 60 a (by omega)]; exact a6) a4) ?_
      rw [if_pos (x_b_0.mpr hi)]
      refine ⟨_, c_find, ?_⟩
      rintro w S1 ⟨rfl, rfl⟩
      exact ⟨_, rfl, rfl, rfl⟩
  case pos =>
  have hi0 := hi
  obtain ⟨k, q, rfl, rfl, s1⟩ := x_span_n hi a4
  have e40 : (40 : Int32) * nI a + nI k = nI (40 * a + k) := by rw [show (40 : Int32) = nI 40 from rfl, nI_mul, nI_add]
  have eit : ∀ j, j < q → S 61 (40 * a + k + j) = S (31 + 2 * a) (k + j) := fun j hj => by rw [Nat.add_assoc]; exact a7 (k + j) (by omega)
  by_cases hP : ∀ j, j < q → 0 ≤ S (31 + 2 * a) (k + j) ∧ S (31 + 2 * a) (k + j) < 8 * nI c
  case neg =>
    have hPM : ¬ ∀ j, j < q → 0 ≤ S 61 (40 * a + k + j) ∧ S 61 (40 * a + k + j) < 8 * nI c := fun z => hP (fun j hj => by rw [← eit j hj]; exact z j hj)
    refine x_Op_rd (v := -1000001) H ?_ ?_
    · refine x_Ci_of (by rw [ml_64]; rfl) (preC _ ?_)
      rw [if_neg ha1]
      refine x_rd (c_holds (x_tg_row ha) a5 a4) ?_
      rw [if_neg (x_b_ne hi0)]
      refine x_rd (c_arePlays ha a5 a4 s1 n2) ?_
      rw [if_pos (x_b_0.mpr (fun z => hP (by rw [decide_eq_true_eq] at z; exact z)))]
      exact x_rt_i rfl
    · refine x_Ci_of (by rw [ml_133]; rfl) (preM S _ p2 rfl ?_)
      rw [if_neg ha2]
      refine x_rd (c_spanM ha a6 a4) ?_
      rw [if_neg (x_b_ne hi0), e40]
      have hr : x_Cr xs (d + 4) 134 [.ref 56, .int (nI (40 * a + k)), .int (nI q)] S (-1000001) := by
        refine x_Ci_of (by rw [ml_134]; rfl) (c_refuses1 (by omega) n3 n1 (fun _ => x_rt_i rfl) (fun z => absurd z hPM))
      refine x_rd hr ?_
      rw [if_neg (by decide)]
      exact x_rt_i rfl
  case pos =>
  -- the items as numbers
  have hit : ∀ j, j < q → (fun j => (S (31 + 2 * a) (k + j)).toNatClampNeg) j < 8 * c ∧ S (31 + 2 * a) (k + j) = nI ((fun j => (S (31 + 2 * a) (k + j)).toNatClampNeg) j) := by
    intro j hj
    obtain ⟨h1, h2⟩ := hP j hj
    rw [show (8 : Int32) * nI c = nI (8 * c) from nI_mul 8 c] at h2
    obtain ⟨v, hv, ev⟩ := x_lt_nat (Int32.not_lt.mpr h1) h2 (by omega)
    show (S (31 + 2 * a) (k + j)).toNatClampNeg < 8 * c ∧ S (31 + 2 * a) (k + j) = nI (S (31 + 2 * a) (k + j)).toNatClampNeg
    rw [ev, nI_clamp (by omega)]
    exact ⟨hv, rfl⟩
  revert hit
  generalize (fun j => (S (31 + 2 * a) (k + j)).toNatClampNeg) = it
  intro hit
  have p4' := p4
  obtain ⟨q1, q2, A, q3, q4, q5⟩ := p4
  have hLS : ∀ v, v < 8 * c → S 66 v = S 66 v ∧ ∃ q : Nat, q < 512 ∧ S 66 v = nI q := fun v hv => ⟨rfl, (x_On_v p4' hv).2⟩
  have hPM : ∀ j, j < q → 0 ≤ S 61 (40 * a + k + j) ∧ S 61 (40 * a + k + j) < 8 * nI c := fun j hj => by rw [eit j hj]; exact hP j hj
  -- the class: on trial
  have hz4 : S 12 4 = 0 ∨ S 12 4 = 1 := Or.inr p1
  have lay : ∀ S5, S5 = x_bec S 17 12 → x_Ci xs (d + 4) 66 [.ref 17, .ref (30 + 2 * a), .int (nI k), .int (nI q)] S5 (fun v S' => (v = if (∀ j, j < q → x_can (S 66) (S 13) it A j = true) then 1 else 0) ∧ ((∀ j, j < q → x_can (S 66) (S 13) it A j = true) → x_GC S' 17 (x_its (S 66) (S 13) it A q)) ∧ ∀ p k, ¬ (p = 17 ∧ 6 ≤ k ∧ k ≤ 9) → p ≠ 20 → p ≠ 21 → S' p k = S5 p k) := by
    rintro S5 rfl
    have e0 : ∀ p k, ¬ (17 ≤ p ∧ p ≤ 21) → x_bec S 17 12 p k = S p k := fun p k z => x_bec_0 (by omega) (by omega) (by omega) (by omega) (by omega)
    refine c_layAll (c := c) (m := m) ha (by rw [e0 _ _ (by omega)]; exact a5) a4 s1 ?_ n1 ?_ ?_ ?_ ?_ q5
    · rw [x_bec_1 (by omega) (by omega)]; exact n2
    · intro j hj
      rw [e0 _ _ (by omega)]
      exact hit j hj
    · intro v hv
      have := x_On_v p4' hv
      refine ⟨?_, this.2⟩
      exact (x_bec_3 (a := 17) (b := 12) (by omega)).trans this.1
    · intro j hj
      exact x_bec_2 (a := 17) (b := 12) hj
    · obtain ⟨c1, c2, c3, c4, c5, c6, c7, c8⟩ := q3
      exact ⟨(x_bec_1 (by omega) (by omega)).trans c1, (x_bec_1 (by omega) (by omega)).trans c2, (x_bec_1 (by omega) (by omega)).trans c3, (x_bec_1 (by omega) (by omega)).trans c4, (x_bec_4 (a := 17) (b := 12) (by omega)).trans c5, (x_bec_4 (a := 17) (b := 12) (by omega)).trans c6, (x_bec_5 (a := 17) (b := 12) (by omega)).trans c7, (x_bec_5 (a := 17) (b := 12) (by omega)).trans c8⟩
  -- the reference: refuses
  have ref : ∀ T : x_M, (∀ p k, p ≠ 12 → p ≠ 13 → p ≠ 14 → p ≠ 15 → p ≠ 16 → ¬ (17 ≤ p ∧ p ≤ 21) → ¬ (p = 8 ∧ k = 9) → T p k = S p k) → x_Ci xs (d + 4) 134 [.ref 56, .int (nI (40 * a + k)), .int (nI q)] T (fun v S' => (v = if (∀ j, j < q → x_can (S 66) (S 13) it A j = true) then 0 else -1000002) ∧ ∀ p k, p ≠ 67 → S' p k = T p k) := by
    intro T hT
    have t61 : ∀ k, T 61 k = S 61 k := fun k => hT 61 k (by omega) (by omega) (by omega) (by omega) (by omega) (by omega) (by omega)
    have t57 : ∀ k, T 57 k = S 57 k := fun k => hT 57 k (by omega) (by omega) (by omega) (by omega) (by omega) (by omega) (by omega)
    refine x_Ci_of (by rw [ml_134]; rfl) (c_refuses1 (c := c) (by omega) (by rw [t57]; exact n3) n1 (fun z => absurd (fun j hj => by rw [t61]; exact hPM j hj) z) (fun _ => ?_))
    refine c_refuses2 (S := T) (by omega) n1 (fun j hj => ⟨(hit j hj).1, by rw [t61, eit j hj]; exact (hit j hj).2⟩) (fun v hv => (hLS v hv).2) q5 ?_ ?_ ?_ (fun p k z => by rw [x_up_ne (by omega), x_up_ne (by omega), x_up_ne (by omega)])
    · rw [x_up_ne (by omega), x_up_ne (by omega), x_up_at, t57]; exact q4.2.2.2.2.2.1
    · rw [x_up_ne (by omega), x_up_at, t57]; exact q4.2.2.2.2.2.2.1
    · rw [x_up_at, t57]; exact q4.2.2.1
  by_cases hall : ∀ j, j < q → x_can (S 66) (S 13) it A j = true
  case neg =>
    have hx : x_Ci xs (d + 5) 64 [.ref 8, .int (nI a), .int (nI k), .int (nI q)] S (fun v S' => v = -1000002 ∧ ∀ p k, ¬ (17 ≤ p ∧ p ≤ 21) → S' p k = S p k) := by
      refine x_Ci_of (by rw [ml_64]; rfl) (preC _ ?_)
      rw [if_neg ha1]
      refine x_rd (c_holds (x_tg_row ha) a5 a4) ?_
      rw [if_neg (x_b_ne hi0)]
      refine x_rd (c_arePlays ha a5 a4 s1 n2) ?_
      rw [if_neg (x_b_ne (by rw [decide_eq_true_eq]; exact hP))]
      refine ⟨_, c_bec (by decide) (by decide) (by omega) hz4, ?_⟩
      intro S5 h5
      refine ⟨_, lay S5 h5, ?_⟩
      rintro v S6 ⟨l1, l2, l3⟩
      rw [if_neg hall] at l1
      rw [if_pos l1]
      exact ⟨_, rfl, rfl, fun p k z => by rw [l3 p k (by omega) (by omega) (by omega), h5, x_bec_0 (by omega) (by omega) (by omega) (by omega) (by omega)]⟩
    refine x_Ci_weak hx ?_
    rintro v T ⟨rfl, hT⟩
    have hz : x_Ci xs (d + 5) 133 [.ref 56, .int (nI a), .int (nI k), .int (nI q)] T (fun v S' => v = -1000002 ∧ ∀ p k, p ≠ 67 → S' p k = T p k) := by
      refine x_Ci_of (by rw [ml_133]; rfl) (preM T _ ((hT 57 0 (by omega)).trans p2) (hT 59 a (by omega)) ?_)
      rw [if_neg ha2]
      refine x_rd (c_spanM ha (by rw [hT 60 a (by omega)]; exact a6) a4) ?_
      rw [if_neg (x_b_ne hi0), e40]
      refine ⟨_, ref T (fun p k _ _ _ _ _ z _ => hT p k z), ?_⟩
      rintro v S4 ⟨l1, l2⟩
      rw [if_neg hall] at l1
      rw [l1, if_neg (by decide)]
      exact ⟨_, rfl, rfl, l2⟩
    refine x_Ci_weak hz ?_
    rintro w S2 ⟨rfl, hS2⟩
    exact ⟨rfl, x_Inv_c (fun p k z => by rw [hS2 p k (by omega), hT p k (by omega)]) H⟩
  case pos =>
    have hx : x_Ci xs (d + 5) 64 [.ref 8, .int (nI a), .int (nI k), .int (nI q)] S (fun v S' => v = x_sum (S 66) (S 13) it A q ∧ S' 8 9 = 0 ∧ x_GC S' 12 (x_its (S 66) (S 13) it A q) ∧ ∀ p k, ¬ (17 ≤ p ∧ p ≤ 21) → ¬ (p = 12 ∧ 6 ≤ k ∧ k ≤ 9) → p ≠ 15 → p ≠ 16 → ¬ (p = 8 ∧ k = 9) → S' p k = S p k) := by
      refine x_Ci_of (by rw [ml_64]; rfl) (preC _ ?_)
      rw [if_neg ha1]
      refine x_rd (c_holds (x_tg_row ha) a5 a4) ?_
      rw [if_neg (x_b_ne hi0)]
      refine x_rd (c_arePlays ha a5 a4 s1 n2) ?_
      rw [if_neg (x_b_ne (by rw [decide_eq_true_eq]; exact hP))]
      refine ⟨_, c_bec (by decide) (by decide) (by omega) hz4, ?_⟩
      intro S5 h5
      refine ⟨_, lay S5 h5, ?_⟩
      rintro v S6 ⟨l1, l2, l3⟩
      rw [if_pos hall] at l1
      rw [l1, if_neg (by decide)]
      have l2 := l2 hall
      have e5 : ∀ p k, ¬ (17 ≤ p ∧ p ≤ 21) → S6 p k = S p k := fun p k z => by rw [l3 p k (by omega) (by omega) (by omega), h5, x_bec_0 (by omega) (by omega) (by omega) (by omega) (by omega)]
      have e174 : ∀ k, 4 ≤ k → k ≤ 5 → S6 17 k = S 12 k := fun k z1 z2 => by rw [l3 17 k (by omega) (by omega) (by omega), h5, x_bec_1 (by omega) (by omega)]
      refine ⟨_, c_bec (a := 12) (b := 17) (by decide) (by decide) (by omega) (by rw [e174 4 (by omega) (by omega)]; exact hz4), ?_⟩
      intro S7 h7
      obtain ⟨c1, c2, c3, c4, c5, c6, c7, c8⟩ := l2
      have g7 : x_GC S7 12 (x_its (S 66) (S 13) it A q) := by
        rw [h7]
        exact ⟨(x_bec_1 (by omega) (by omega)).trans c1, (x_bec_1 (by omega) (by omega)).trans c2, (x_bec_1 (by omega) (by omega)).trans c3, (x_bec_1 (by omega) (by omega)).trans c4, (x_bec_4 (a := 12) (b := 17) (by omega)).trans c5, (x_bec_4 (a := 12) (b := 17) (by omega)).trans c6, (x_bec_5 (a := 12) (b := 17) (by omega)).trans c7, (x_bec_5 (a := 12) (b := 17) (by omega)).trans c8⟩
      have k7 : ∀ p k, ¬ (17 ≤ p ∧ p ≤ 21) → ¬ (p = 12 ∧ 6 ≤ k ∧ k ≤ 9) → p ≠ 15 → p ≠ 16 → S7 p k = S p k := by
        intro p j z1 z2 z3 z4
        rw [h7]
        by_cases y1 : p = 12 ∧ 4 ≤ j ∧ j ≤ 5
        · obtain ⟨rfl, y1, y2⟩ := y1
          rw [x_bec_1 y1 (by omega), e174 j y1 y2]
        · by_cases y2 : p = 13 ∧ j < 9
          · obtain ⟨rfl, y2⟩ := y2
            rw [show x_bec S6 12 17 13 j = S6 18 j from x_bec_2 (a := 12) (b := 17) y2, l3 18 j (by omega) (by omega) (by omega), h5]
            exact x_bec_2 (a := 17) (b := 12) y2
          · by_cases y3 : p = 14 ∧ j < 112
            · obtain ⟨rfl, y3⟩ := y3
              rw [show x_bec S6 12 17 14 j = S6 19 j from x_bec_3 (a := 12) (b := 17) y3, l3 19 j (by omega) (by omega) (by omega), h5]
              exact x_bec_3 (a := 17) (b := 12) y3
            · rw [x_bec_0 (by omega) (by omega) (by omega) (by omega) (by omega), e5 p j z1]
      refine ⟨_, c_passed, ?_⟩
      rintro v8 S8 ⟨rfl, h8⟩
      have g8 : ∀ k, S8 12 k = S7 12 k ∧ S8 15 k = S7 15 k ∧ S8 16 k = S7 16 k := fun k => ⟨by rw [h8, x_up_ne (by omega)], by rw [h8, x_up_ne (by omega)], by rw [h8, x_up_ne (by omega)]⟩
      refine ⟨_, rfl, ?_, by rw [h8, x_up_at], ?_, fun p k z1 z2 z3 z4 z5 => by rw [h8, x_up_ne z5, k7 p k z1 z2 z3 z4]⟩
      · rw [← x_sum_e]
        have g71 : S7 16 0 = x_Ag0 (x_its (S 66) (S 13) it A q) := g7.2.2.2.2.2.2.1
        have g72 : S7 16 1 = x_Ag1 (x_its (S 66) (S 13) it A q) := g7.2.2.2.2.2.2.2
        have g73 : S 16 0 = x_Ag0 A := q3.2.2.2.2.2.2.1
        have g74 : S 16 1 = x_Ag1 A := q3.2.2.2.2.2.2.2
        rw [g71, g72, e5 16 0 (by omega), e5 16 1 (by omega), g73, g74]
      · obtain ⟨c1, c2, c3, c4, c5, c6, c7, c8⟩ := g7
        exact ⟨(g8 _).1.trans c1, (g8 _).1.trans c2, (g8 _).1.trans c3, (g8 _).1.trans c4, (g8 _).2.1.trans c5, (g8 _).2.1.trans c6, (g8 _).2.2.trans c7, (g8 _).2.2.trans c8⟩
    refine x_Ci_weak hx ?_
    rintro v T ⟨rfl, hT9, hTC, hT⟩
    have hTg : ∀ p k, p ≠ 12 → p ≠ 13 → p ≠ 14 → p ≠ 15 → p ≠ 16 → ¬ (17 ≤ p ∧ p ≤ 21) → ¬ (p = 8 ∧ k = 9) → T p k = S p k := fun p k z1 z2 z3 z4 z5 z6 z7 => hT p k z6 (by omega) z4 z5 z7
    have hz : x_Ci xs (d + 5) 133 [.ref 56, .int (nI a), .int (nI k), .int (nI q)] T (fun v S' => v = x_sum (S 66) (S 13) it A q ∧ S' 56 4 = 0 ∧ x_GM S' 0 (x_its (S 66) (S 13) it A q) ∧ ∀ p k, p ≠ 67 → ¬ (p = 57 ∧ 25 ≤ k ∧ k ≤ 32) → ¬ (p = 56 ∧ k = 4) → S' p k = T p k) := by
      have t57 : ∀ k, T 57 k = S 57 k := fun k => hTg 57 k (by omega) (by omega) (by omega) (by omega) (by omega) (by omega) (by omega)
      refine x_Ci_of (by rw [ml_133]; rfl) (preM T _ ((t57 0).trans p2) (hTg 59 a (by omega) (by omega) (by omega) (by omega) (by omega) (by omega) (by omega)) ?_)
      rw [if_neg ha2]
      refine x_rd (c_spanM ha (by rw [hTg 60 a (by omega) (by omega) (by omega) (by omega) (by omega) (by omega) (by omega)]; exact a6) a4) ?_
      rw [if_neg (x_b_ne hi0), e40]
      refine ⟨_, ref T hTg, ?_⟩
      rintro v S4 ⟨l1, l2⟩
      rw [if_pos hall] at l1
      rw [l1, if_pos rfl]
      have m4 : ∀ k, S4 57 k = S 57 k := fun k => by rw [l2 57 k (by omega), t57]
      refine x_E_weak (c_playsM (it := it) (L := S 66) (T := S 13) (A := A) (c := c) (by omega) n1 ?_ ?_ ?_ ?_ q5) ?_
      · intro j hj
        refine ⟨(hit j hj).1, ?_⟩
        rw [l2 61 _ (by omega), hTg 61 _ (by omega) (by omega) (by omega) (by omega) (by omega) (by omega) (by omega), eit j hj]
        exact (hit j hj).2
      · intro v hv
        refine ⟨?_, (hLS v hv).2⟩
        rw [l2 66 _ (by omega), hTg 66 _ (by omega) (by omega) (by omega) (by omega) (by omega) (by omega) (by omega)]
      · intro P
        rw [x_On_w p4']
        exact x_wsum_c 9 (fun j hj => m4 _)
      · obtain ⟨m1, m2, m3, m4', m5, m6, m7, m8⟩ := q4
        exact ⟨(m4 _).trans m1, (m4 _).trans m2, (m4 _).trans m3, (m4 _).trans m4', (m4 _).trans m5, (m4 _).trans m6, (m4 _).trans m7, (m4 _).trans m8⟩
      · rintro r' S' ⟨v, hv1, hv2, hv3, hv4, hv5⟩
        exact ⟨v, hv1, hv2, hv3, hv4, fun p k z1 z2 z3 => by rw [hv5 p k z2 z3, l2 p k z1]⟩
    refine x_Ci_weak hz ?_
    rintro w S2 ⟨rfl, h29, h2M, hS2⟩
    refine ⟨rfl, ?_⟩
    have hw := x_its_w (T := S 13) q5 n1 (fun j hj => ⟨(hit j hj).1, (hLS _ (hit j hj).1).2⟩) q (Nat.le_refl q)
    have H1 : x_Inv (x_up (x_up S 8 9 0) 56 4 0) := x_Inv_st H
    have u : ∀ p k, ¬ (p = 8 ∧ k = 9) → ¬ (p = 56 ∧ k = 4) → x_up (x_up S 8 9 0) 56 4 0 p k = S p k := fun p k z1 z2 => by rw [x_up_ne z2, x_up_ne z1]
    refine x_Inv_pl (n := c) H1 (by rw [u _ _ (by omega) (by omega)]; exact n2) n1 (by rw [u _ _ (by omega) (by omega)]; exact p1) ?_ ?_ h2M hw
    · intro p k z0 z1 z2 z3 z4
      by_cases y1 : p = 8 ∧ k = 9
      · obtain ⟨rfl, rfl⟩ := y1
        rw [hS2 8 9 (by omega) (by omega) (by omega), hT9, x_up_ne (by omega), x_up_at]
      · by_cases y2 : p = 56 ∧ k = 4
        · obtain ⟨rfl, rfl⟩ := y2
          rw [h29, x_up_at]
        · rw [u p k y1 y2, hS2 p k (by omega) z4 y2, hT p k (by omega) z1 z2 z3 y1]
    · obtain ⟨c1, c2, c3, c4, c5, c6, c7, c8⟩ := hTC
      have f : ∀ p k, 12 ≤ p → p ≤ 16 → S2 p k = T p k := fun p k z1 z2 => hS2 p k (by omega) (by omega) (by omega)
      exact ⟨(f _ _ (by omega) (by omega)).trans c1, (f _ _ (by omega) (by omega)).trans c2, (f _ _ (by omega) (by omega)).trans c3, (f _ _ (by omega) (by omega)).trans c4, (f _ _ (by omega) (by omega)).trans c5, (f _ _ (by omega) (by omega)).trans c6, (f _ _ (by omega) (by omega)).trans c7, (f _ _ (by omega) (by omega)).trans c8⟩
end OPLAYS
