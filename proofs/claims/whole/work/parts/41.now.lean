section NOW
variable {xs : List Int32} {d : Nat} {S : x_M}
theorem c_cardsLeft {l0 l1 : Nat} (h0 : S 15 0 = nI l0) (h1 : S 15 1 = nI l1) (b0 : l0 < 2 ^ 14) (b1 : l1 < 2 ^ 14) : x_Cr xs (d + 2) 13 [.ref 12] S (nI (x_pop l0 14 + x_pop l1 14)) := by
  refine x_Ci_of (by rw [ml_13]; rfl) (T_13_0 (by decide) ?_)
  rw [show x_rr 12 2 = 15 from rfl, h0]
  refine x_rd (c_bitCount b0) ?_
  rw [h1]
  refine x_rd (c_bitCount b1) (x_rt_i ?_)
  exact nI_add _ _
/-- how many rows are there -/
def x_many (f : Nat → Int32) : Nat → Int32
  | 0 => 0
  | k + 1 => if f k = 0 then x_many f k else x_many f k + 1
theorem c_rowsThere : x_Cr xs (d + 1) 96 [.ref 8] S (x_many (fun k => S (30 + 2 * k) 1) 8) := by
  refine x_Ci_of (by rw [ml_96]; rfl) (T_96_0 ?_)
  have loop : ∀ m k, k + m = 8 → x_E xs (d + 1) 96 4 [.ref 8, .int (x_many (fun k => S (30 + 2 * k) 1) k), .int (nI k)] [] S (fun r S' => ∃ v : Int32, r = some (.int v) ∧ v = x_many (fun k => S (30 + 2 * k) 1) 8 ∧ S' = S) := by
    intro m
    induction m with
    | zero =>
      intro k hk
      have hk9 : k = 8 := by omega
      subst hk9
      refine T_96_4 ?_
      rw [if_pos (by decide)]
      exact ⟨_, rfl, rfl, rfl⟩
    | succ m ih =>
      intro k hk
      refine T_96_4 ?_
      rw [if_neg (show ¬ (8 : Int32) ≤ nI k from nI_ge (a := k) (b := 8) (by omega) (by decide)), nI_clamp (by omega), x_rr_9 (by omega)]
      refine ⟨x_ib_n (by omega) (by decide), ?_⟩
      have hi := ih (k + 1) (by omega)
      rw [nI_succ] at hi
      have hx : x_many (fun k => S (30 + 2 * k) 1) (k + 1) = if S (30 + 2 * k) 1 = 0 then x_many (fun k => S (30 + 2 * k) 1) k else x_many (fun k => S (30 + 2 * k) 1) k + 1 := rfl
      rw [hx] at hi
      split
      next h => rw [if_pos h] at hi; exact hi
      next h => rw [if_neg h] at hi; exact hi
  exact loop 8 0 rfl
def x_cntM (S : x_M) (a : Int32) (v : Int32) : Int32 := if a = 0 then v else if a = 1 then S 57 1 else if a = 2 then S 57 1 - nI (x_pop (S 57 30).toNatClampNeg 14) - nI (x_pop (S 57 31).toNatClampNeg 14) else if a = 3 then S 56 2 else -1000001
theorem c_countM {a : Int32} {l0 l1 : Nat} (hr : ∀ r, r < 8 → (S 59 r = -1000000 ↔ S (30 + 2 * r) 1 = 0)) (h0 : S 57 30 = nI l0) (h1 : S 57 31 = nI l1) (b0 : l0 < 2 ^ 14) (b1 : l1 < 2 ^ 14) : x_Cr xs (d + 2) 171 [.ref 56, .int a] S (x_cntM S a (x_many (fun k => S (30 + 2 * k) 1) 8)) := by
  refine x_Ci_of (by rw [ml_171]; rfl) (T_171_0 ?_)
  have loop : ∀ m k, k + m = 8 → x_E xs (d + 2) 171 4 [.ref 56, .int a, .int (x_many (fun k => S (30 + 2 * k) 1) k), .int (nI k)] [] S (fun r S' => ∃ v : Int32, r = some (.int v) ∧ v = x_cntM S a (x_many (fun k => S (30 + 2 * k) 1) 8) ∧ S' = S) := by
    intro m
    induction m with
    | zero =>
      intro k hk
      have hk9 : k = 8 := by omega
      subst hk9
      refine T_171_4 ?_
      rw [if_pos (by decide)]
      unfold x_cntM
      split
      next h => exact x_rt_i rfl
      next h =>
        split
        next h => exact x_rt_i rfl
        next h =>
          split
          next h =>
            rw [h0]
            refine x_rd (c_bits b0) ?_
            rw [h1]
            refine x_rd (c_bits b1) (x_rt_i ?_)
            rw [nI_clamp (by omega), nI_clamp (by omega)]
          next h =>
            split
            next h => exact x_rt_i rfl
            next h => exact x_rt_i rfl
    | succ m ih =>
      intro k hk
      refine T_171_4 ?_
      rw [if_neg (show ¬ (8 : Int32) ≤ nI k from nI_ge (a := k) (b := 8) (by omega) (by decide)), nI_clamp (by omega)]
      refine ⟨x_ib_n (by omega) (by decide), ?_⟩
      have hi := ih (k + 1) (by omega)
      rw [nI_succ] at hi
      have hx : x_many (fun k => S (30 + 2 * k) 1) (k + 1) = if S (30 + 2 * k) 1 = 0 then x_many (fun k => S (30 + 2 * k) 1) k else x_many (fun k => S (30 + 2 * k) 1) k + 1 := rfl
      rw [hx] at hi
      split
      next h => rw [if_pos ((hr k (by omega)).mp h)] at hi; rw [Int32.add_zero]; exact hi
      next h => rw [if_neg (fun z => h ((hr k (by omega)).mpr z))] at hi; exact hi
  exact loop 8 0 rfl
/-- a bit of at most one of two -/
theorem x_pop_le {l : Nat} : ∀ k, x_pop l k ≤ k := by
  intro k
  induction k with
  | zero => exact Nat.le_refl 0
  | succ k ih =>
    show x_pop l k + (l >>> k &&& 1) ≤ k + 1
    have : l >>> k &&& 1 ≤ 1 := Nat.and_le_right
    omega
theorem o_count {a : Int32} (H : x_Inv S) : x_Op xs (d + 3) 95 171 [.int a] S := by
  obtain ⟨n, n1, n2, n3, n4⟩ := x_view H
  have hL : ∃ l0 l1 : Nat, S 15 0 = nI l0 ∧ S 15 1 = nI l1 ∧ S 57 30 = nI l0 ∧ S 57 31 = nI l1 ∧ l0 < 2 ^ 14 ∧ l1 < 2 ^ 14 := by
    rcases n4 with ⟨p1, p2, p3, p4, p5, p6, p7⟩ | ⟨p1, p2, p3, p4⟩
    · exact ⟨0, 0, p4, p5, p6, p7, by decide, by decide⟩
    · obtain ⟨q1, q2, A, q3, q4, q5⟩ := p4
      have h2 := x_2n n1
      have w2 := q5.2.1
      have w3 := q5.2.2.1
      exact ⟨x_Al0 A, x_Al1 A, q3.2.2.2.2.1, q3.2.2.2.2.2.1, q4.2.2.2.2.2.1, q4.2.2.2.2.2.2.1, by omega, by omega⟩
  obtain ⟨l0, l1, e0, e1, e2, e3, b0, b1⟩ := hL
  obtain ⟨t, t1, t2, t3, t4⟩ := H.2.1
  have hr : ∀ r, r < 8 → (S 59 r = -1000000 ↔ S (30 + 2 * r) 1 = 0) := by
    intro r hr
    rcases H.1 r hr with ⟨a1, a2, a3, _⟩ | ⟨a1, a2⟩
    · rw [a1, a3]
      exact ⟨fun z => absurd z (x_l0 a2), fun z => absurd z (by decide)⟩
    · rw [a1, a2]
      exact ⟨fun _ => rfl, fun _ => rfl⟩
  refine x_Op_rd (v := x_cntM S a (x_many (fun k => S (30 + 2 * k) 1) 8)) H ?_ (c_countM hr e2 e3 b0 b1)
  refine x_Ci_of (by rw [ml_95]; rfl) (T_95_0 ?_)
  unfold x_cntM
  split
  next h => exact x_rd c_rowsThere (x_rt_i rfl)
  next h =>
    split
    next h => exact x_rt_i (n2.trans n3.symm)
    next h =>
      split
      next h =>
        refine x_rd (c_cardsLeft e0 e1 b0 b1) (x_rt_i ?_)
        rw [n2, n3, e2, e3, nI_clamp (by omega), nI_clamp (by omega), ← nI_add]
        rw [Int32.sub_eq_add_neg, Int32.neg_add, Int32.sub_eq_add_neg (nI n - _), Int32.sub_eq_add_neg (nI n), Int32.add_assoc, Int32.sub_eq_add_neg (-nI (x_pop l0 14))]
      next h =>
        split
        next h => exact x_rt_i (t2.trans t3.symm)
        next h => exact x_rt_i rfl
theorem o_now {a : Int32} (H : x_Inv S) : x_Op xs (d + 2) 70 137 [.int a] S := by
  obtain ⟨n, n1, n2, n3, n4⟩ := x_view H
  rcases n4 with ⟨p1, p2, _⟩ | ⟨p1, p2, p3, p4⟩
  · refine x_Op_rd (v := -1000002) H ?_ ?_
    · refine x_Ci_of (by rw [ml_70]; rfl) (T_70_0 ?_)
      rw [if_pos p1]
      exact x_rt_i rfl
    · refine x_Ci_of (by rw [ml_137]; rfl) (T_137_0 ?_)
      rw [if_pos p2]
      exact x_rt_i rfl
  · obtain ⟨q1, q2, A, q3, q4, q5⟩ := p4
    obtain ⟨c1, c2, c3, c4, c5, c6, c7, c8⟩ := q3
    have q4' := q4
    obtain ⟨m1, m2, m3, m4, m5, m6, m7, m8⟩ := q4
    have m1 : S 57 25 = x_Ash A := m1
    have m2 : S 57 26 = x_Aly A := m2
    have m3 : S 57 27 = nI (x_Ah A) := m3
    have m8 : S 57 32 = x_Atk A := m8
    by_cases h0 : a = 0
    · subst h0
      refine x_Op_rd (v := S 12 6) H ?_ ?_
      · refine x_Ci_of (by rw [ml_70]; rfl) (T_70_0 ?_)
        rw [p1, if_neg (by decide), if_pos (show (0 : Int32) = 0 from rfl)]
        exact x_rt_i rfl
      · refine x_Ci_of (by rw [ml_137]; rfl) (T_137_0 ?_)
        rw [p2, if_neg (by decide), if_pos (show (0 : Int32) = 0 from rfl)]
        exact x_rt_i (m1.trans c1.symm)
    by_cases h1 : a = 1
    · subst h1
      refine x_Op_rd (v := S 12 7) H ?_ ?_
      · refine x_Ci_of (by rw [ml_70]; rfl) (T_70_0 ?_)
        rw [p1, if_neg (by decide), if_neg (show ¬ (1 : Int32) = 0 by decide), if_pos (show (1 : Int32) = 1 from rfl)]
        exact x_rt_i rfl
      · refine x_Ci_of (by rw [ml_137]; rfl) (T_137_0 ?_)
        rw [p2, if_neg (by decide), if_neg (show ¬ (1 : Int32) = 0 by decide), if_pos (show (1 : Int32) = 1 from rfl)]
        exact x_rt_i (m2.trans c2.symm)
    by_cases h2 : a = 2
    · subst h2
      refine x_Op_rd (v := S 12 8) H ?_ ?_
      · refine x_Ci_of (by rw [ml_70]; rfl) (T_70_0 ?_)
        rw [p1, if_neg (by decide), if_neg (show ¬ (2 : Int32) = 0 by decide), if_neg (show ¬ (2 : Int32) = 1 by decide), if_pos (show (2 : Int32) = 2 from rfl)]
        exact x_rt_i rfl
      · refine x_Ci_of (by rw [ml_137]; rfl) (T_137_0 ?_)
        rw [p2, if_neg (by decide), if_neg (show ¬ (2 : Int32) = 0 by decide), if_neg (show ¬ (2 : Int32) = 1 by decide), if_pos (show (2 : Int32) = 2 from rfl)]
        refine x_rd (c_isOver q4' q5 n1) ?_
        rw [c3]
        unfold x_tu
        split
        next h =>
          rw [x_b_0, decide_eq_true_eq] at h
          rw [if_neg h]
          exact x_rt_i m3
        next h =>
          have h := Decidable.not_not.mp (fun z => h (x_b_0.mpr z))
          rw [decide_eq_true_eq] at h
          rw [if_pos h]
          exact x_rt_i rfl
    by_cases h3 : a = 3
    · subst h3
      refine x_Op_rd (v := S 16 0) H ?_ ?_
      · refine x_Ci_of (by rw [ml_70]; rfl) (T_70_0 ?_)
        rw [p1, if_neg (by decide), if_neg (show ¬ (3 : Int32) = 0 by decide), if_neg (show ¬ (3 : Int32) = 1 by decide), if_neg (show ¬ (3 : Int32) = 2 by decide), if_pos (show (3 : Int32) = 3 from rfl)]
        exact x_rt_i rfl
      · refine x_Ci_of (by rw [ml_137]; rfl) (T_137_0 ?_)
        rw [p2, if_neg (by decide), if_neg (show ¬ (3 : Int32) = 0 by decide), if_neg (show ¬ (3 : Int32) = 1 by decide), if_neg (show ¬ (3 : Int32) = 2 by decide), if_pos (show (3 : Int32) = 3 from rfl)]
        exact ⟨x_ib_n (k := 28) (by omega) (by decide), x_rt_i (m4.trans c7.symm)⟩
    by_cases h4 : a = 4
    · subst h4
      refine x_Op_rd (v := S 16 1) H ?_ ?_
      · refine x_Ci_of (by rw [ml_70]; rfl) (T_70_0 ?_)
        rw [p1, if_neg (by decide), if_neg (show ¬ (4 : Int32) = 0 by decide), if_neg (show ¬ (4 : Int32) = 1 by decide), if_neg (show ¬ (4 : Int32) = 2 by decide), if_neg (show ¬ (4 : Int32) = 3 by decide), if_pos (show (4 : Int32) = 4 from rfl)]
        exact x_rt_i rfl
      · refine x_Ci_of (by rw [ml_137]; rfl) (T_137_0 ?_)
        rw [p2, if_neg (by decide), if_neg (show ¬ (4 : Int32) = 0 by decide), if_neg (show ¬ (4 : Int32) = 1 by decide), if_neg (show ¬ (4 : Int32) = 2 by decide), if_neg (show ¬ (4 : Int32) = 3 by decide), if_pos (show (4 : Int32) = 4 from rfl)]
        exact ⟨x_ib_n (k := 29) (by omega) (by decide), x_rt_i (m5.trans c8.symm)⟩
    by_cases h5 : a = 5
    · subst h5
      refine x_Op_rd (v := S 15 0) H ?_ ?_
      · refine x_Ci_of (by rw [ml_70]; rfl) (T_70_0 ?_)
        rw [p1, if_neg (by decide), if_neg (show ¬ (5 : Int32) = 0 by decide), if_neg (show ¬ (5 : Int32) = 1 by decide), if_neg (show ¬ (5 : Int32) = 2 by decide), if_neg (show ¬ (5 : Int32) = 3 by decide), if_neg (show ¬ (5 : Int32) = 4 by decide), if_pos (show (5 : Int32) = 5 from rfl)]
        exact x_rt_i rfl
      · refine x_Ci_of (by rw [ml_137]; rfl) (T_137_0 ?_)
        rw [p2, if_neg (by decide), if_neg (show ¬ (5 : Int32) = 0 by decide), if_neg (show ¬ (5 : Int32) = 1 by decide), if_neg (show ¬ (5 : Int32) = 2 by decide), if_neg (show ¬ (5 : Int32) = 3 by decide), if_neg (show ¬ (5 : Int32) = 4 by decide), if_pos (show (5 : Int32) = 5 from rfl)]
        exact ⟨x_ib_n (k := 30) (by omega) (by decide), x_rt_i (m6.trans c5.symm)⟩
    by_cases h6 : a = 6
    · subst h6
      refine x_Op_rd (v := S 15 1) H ?_ ?_
      · refine x_Ci_of (by rw [ml_70]; rfl) (T_70_0 ?_)
        rw [p1, if_neg (by decide), if_neg (show ¬ (6 : Int32) = 0 by decide), if_neg (show ¬ (6 : Int32) = 1 by decide), if_neg (show ¬ (6 : Int32) = 2 by decide), if_neg (show ¬ (6 : Int32) = 3 by decide), if_neg (show ¬ (6 : Int32) = 4 by decide), if_neg (show ¬ (6 : Int32) = 5 by decide), if_pos (show (6 : Int32) = 6 from rfl)]
        exact x_rt_i rfl
      · refine x_Ci_of (by rw [ml_137]; rfl) (T_137_0 ?_)
        rw [p2, if_neg (by decide), if_neg (show ¬ (6 : Int32) = 0 by decide), if_neg (show ¬ (6 : Int32) = 1 by decide), if_neg (show ¬ (6 : Int32) = 2 by decide), if_neg (show ¬ (6 : Int32) = 3 by decide), if_neg (show ¬ (6 : Int32) = 4 by decide), if_neg (show ¬ (6 : Int32) = 5 by decide), if_pos (show (6 : Int32) = 6 from rfl)]
        exact ⟨x_ib_n (k := 31) (by omega) (by decide), x_rt_i (m7.trans c6.symm)⟩
    by_cases h7 : a = 7
    · subst h7
      refine x_Op_rd (v := S 12 9) H ?_ ?_
      · refine x_Ci_of (by rw [ml_70]; rfl) (T_70_0 ?_)
        rw [p1, if_neg (by decide), if_neg (show ¬ (7 : Int32) = 0 by decide), if_neg (show ¬ (7 : Int32) = 1 by decide), if_neg (show ¬ (7 : Int32) = 2 by decide), if_neg (show ¬ (7 : Int32) = 3 by decide), if_neg (show ¬ (7 : Int32) = 4 by decide), if_neg (show ¬ (7 : Int32) = 5 by decide), if_neg (show ¬ (7 : Int32) = 6 by decide), if_pos (show (7 : Int32) = 7 from rfl)]
        exact x_rt_i rfl
      · refine x_Ci_of (by rw [ml_137]; rfl) (T_137_0 ?_)
        rw [p2, if_neg (by decide), if_neg (show ¬ (7 : Int32) = 0 by decide), if_neg (show ¬ (7 : Int32) = 1 by decide), if_neg (show ¬ (7 : Int32) = 2 by decide), if_neg (show ¬ (7 : Int32) = 3 by decide), if_neg (show ¬ (7 : Int32) = 4 by decide), if_neg (show ¬ (7 : Int32) = 5 by decide), if_neg (show ¬ (7 : Int32) = 6 by decide), if_pos (show (7 : Int32) = 7 from rfl)]
        exact x_rt_i (m8.trans c4.symm)
    refine x_Op_rd (v := -1000001) H ?_ ?_
    · refine x_Ci_of (by rw [ml_70]; rfl) (T_70_0 ?_)
      rw [p1, if_neg (by decide), if_neg h0, if_neg h1, if_neg h2, if_neg h3, if_neg h4, if_neg h5, if_neg h6, if_neg h7]
      exact x_rt_i rfl
    · refine x_Ci_of (by rw [ml_137]; rfl) (T_137_0 ?_)
      rw [p2, if_neg (by decide), if_neg h0, if_neg h1, if_neg h2, if_neg h3, if_neg h4, if_neg h5, if_neg h6, if_neg h7]
      exact x_rt_i rfl
theorem o_play {a w : Int32} (H : x_Inv S) : x_Op xs (d + 4) 63 130 [.int a, .int w] S := by
  obtain ⟨n, n1, n2, n3, n4⟩ := x_view H
  by_cases hb : 0 ≤ a ∧ a < nI n
  · by_cases hy : 0 ≤ w ∧ w ≤ 7
    · obtain ⟨c, hc, rfl⟩ := x_crd_n n1 hb
      obtain ⟨y, hyy, rfl⟩ := x_way_n hy
      rcases n4 with n4 | ⟨p1, p2, p3, p4⟩
      · omega
      · have p4' := p4
        obtain ⟨q1, q2, A, q3, q4, q5⟩ := p4
        by_cases hh : (x_hd A).testBit c = true
        · have hx : x_Ci xs (d + 4) 63 [.ref 8, .int (nI c), .int (nI y)] S (fun v S' => v = x_gain (S 14) (S 13) (8 * c + y) A ∧ x_GC S' 12 (x_stp (S 14) (S 13) (8 * c + y) A) ∧ ∀ p k, ¬ (p = 12 ∧ 6 ≤ k ∧ k ≤ 9) → p ≠ 15 → p ≠ 16 → S' p k = S p k) := by
            refine x_Ci_of (by rw [ml_63]; rfl) (T_63_0 (x_rd c_isPlay ?_))
            rw [n2, if_neg (x_b_ne (by rw [Bool.and_eq_true, decide_eq_true_eq, decide_eq_true_eq]; exact ⟨hb, hy⟩))]
            refine x_rd (c_mayLay (by decide) n2 n1 hc q3 q5) ?_
            rw [if_neg (x_b_ne hh)]
            refine ⟨_, c_lay (by decide) n2 n1 hc hyy q3 q5 hh, ?_⟩
            intro v S1 hv
            exact ⟨v, rfl, hv⟩
          refine x_Ci_weak hx ?_
          rintro v S1 ⟨rfl, g1, g2⟩
          have hm1 : x_GM S1 0 A := by
            obtain ⟨m1, m2, m3, m4, m5, m6, m7, m8⟩ := q4
            exact ⟨(g2 _ _ (by omega) (by omega) (by omega)).trans m1, (g2 _ _ (by omega) (by omega) (by omega)).trans m2, (g2 _ _ (by omega) (by omega) (by omega)).trans m3, (g2 _ _ (by omega) (by omega) (by omega)).trans m4, (g2 _ _ (by omega) (by omega) (by omega)).trans m5, (g2 _ _ (by omega) (by omega) (by omega)).trans m6, (g2 _ _ (by omega) (by omega) (by omega)).trans m7, (g2 _ _ (by omega) (by omega) (by omega)).trans m8⟩
          have eL : S1 66 = S 66 := funext (fun k => g2 66 k (by omega) (by omega) (by omega))
          have eT : S1 57 = S 57 := funext (fun k => g2 57 k (by omega) (by omega) (by omega))
          have hL : S 14 (8 * c + y) = S1 66 (8 * c + y) := by rw [eL]; exact (x_On_v p4' (by omega)).1
          have hT : ∀ P, x_wsum (S 13) P 9 = x_wsum (fun k => S1 57 (16 + k)) P 9 := fun P => by rw [eT]; exact x_On_w p4'
          have hz : x_Ci xs (d + 4) 130 [.ref 56, .int (nI c), .int (nI y)] S1 (fun w S' => w = x_gain (S 14) (S 13) (8 * c + y) A ∧ x_GM S' 0 (x_stp (S 14) (S 13) (8 * c + y) A) ∧ ∀ p k, ¬ (p = 57 ∧ 25 ≤ k ∧ k ≤ 32) → S' p k = S1 p k) := by
            refine x_Ci_of (by rw [ml_130]; rfl) (T_130_0 (x_rd c_isCardM ?_))
            rw [eT, n3, if_neg (x_b_ne (by rw [decide_eq_true_eq, x_crd n1]; exact hb))]
            refine x_rd c_isWayM ?_
            rw [if_neg (x_b_ne (by rw [decide_eq_true_eq]; exact hy))]
            refine x_rd (c_isInHand n1 hc hm1 q5) ?_
            rw [if_neg (x_b_ne hh), x_8cw]
            refine ⟨_, c_playOf n1 (by omega) hm1 q5, ?_⟩
            intro v S2 hv
            rw [x_gain_c hL hT, x_stp_c hL hT]
            exact ⟨v, rfl, hv⟩
          refine x_Ci_weak hz ?_
          rintro v S2 ⟨rfl, g3, g4⟩
          refine ⟨rfl, x_Inv_pl H n2 n1 p1 (fun p k z1 z2 z3 z4 z5 => by rw [g4 p k z5, g2 p k z2 z3 z4]) ?_ g3 (x_AW_stp q5 ?_ (by omega))⟩
          · obtain ⟨m1, m2, m3, m4, m5, m6, m7, m8⟩ := g1
            exact ⟨(g4 _ _ (by omega)).trans m1, (g4 _ _ (by omega)).trans m2, (g4 _ _ (by omega)).trans m3, (g4 _ _ (by omega)).trans m4, (g4 _ _ (by omega)).trans m5, (g4 _ _ (by omega)).trans m6, (g4 _ _ (by omega)).trans m7, (g4 _ _ (by omega)).trans m8⟩
          · rw [(x_On_v p4' (v := 8 * c + y) (by omega)).1]
            exact (x_On_v p4' (v := 8 * c + y) (by omega)).2
        · refine x_Op_rd (v := -1000002) H ?_ ?_
          · refine x_Ci_of (by rw [ml_63]; rfl) (T_63_0 (x_rd c_isPlay ?_))
            rw [n2, if_neg (x_b_ne (by rw [Bool.and_eq_true, decide_eq_true_eq, decide_eq_true_eq]; exact ⟨hb, hy⟩))]
            refine x_rd (c_mayLay (by decide) n2 n1 hc q3 q5) ?_
            rw [if_pos (x_b_0.mpr hh)]
            exact x_rt_i rfl
          · refine x_Ci_of (by rw [ml_130]; rfl) (T_130_0 (x_rd c_isCardM ?_))
            rw [n3, if_neg (x_b_ne (by rw [decide_eq_true_eq, x_crd n1]; exact hb))]
            refine x_rd c_isWayM ?_
            rw [if_neg (x_b_ne (by rw [decide_eq_true_eq]; exact hy))]
            refine x_rd (c_isInHand n1 hc q4 q5) ?_
            rw [if_pos (x_b_0.mpr hh)]
            exact x_rt_i rfl
    · refine x_Op_rd (v := -1000001) H ?_ ?_
      · refine x_Ci_of (by rw [ml_63]; rfl) (T_63_0 (x_rd c_isPlay ?_))
        rw [n2, if_pos (x_b_0.mpr (fun z => hy (by rw [Bool.and_eq_true, decide_eq_true_eq, decide_eq_true_eq] at z; exact z.2)))]
        exact x_rt_i rfl
      · refine x_Ci_of (by rw [ml_130]; rfl) (T_130_0 (x_rd c_isCardM ?_))
        rw [n3, if_neg (x_b_ne (by rw [decide_eq_true_eq, x_crd n1]; exact hb))]
        refine x_rd c_isWayM ?_
        rw [if_pos (x_b_0.mpr (fun z => hy (by rw [decide_eq_true_eq] at z; exact z)))]
        exact x_rt_i rfl
  · refine x_Op_rd (v := -1000001) H ?_ ?_
    · refine x_Ci_of (by rw [ml_63]; rfl) (T_63_0 (x_rd c_isPlay ?_))
      rw [n2, if_pos (x_b_0.mpr (fun z => hb (by rw [Bool.and_eq_true, decide_eq_true_eq, decide_eq_true_eq] at z; exact z.1)))]
      exact x_rt_i rfl
    · refine x_Ci_of (by rw [ml_130]; rfl) (T_130_0 (x_rd c_isCardM ?_))
      rw [n3, if_pos (x_b_0.mpr (fun z => hb (by rw [decide_eq_true_eq, x_crd n1] at z; exact z)))]
      exact x_rt_i rfl
end NOW
