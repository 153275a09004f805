/-! BEST, by the class: the last few cards -/
def x_OB (l0 l1 k size : Nat) (c : Nat → Nat) (o0 o1 : Nat) : Prop :=
  (∀ i, i < size → c i < k ∧ (l0.testBit (c i) = true ∨ l1.testBit (c i) = true)) ∧ (∀ i j, i < j → j < size → c i < c j) ∧
  (∀ q, q < k → (l0.testBit q = true ∨ l1.testBit q = true) → ∃ i, i < size ∧ c i = q) ∧
  (∀ i, i < size → o0.testBit i = l0.testBit (c i) ∧ o1.testBit i = l1.testBit (c i)) ∧ o0 < 2 ^ size ∧ o1 < 2 ^ size ∧ x_pop l0 k + x_pop l1 k = size
def x_OS (S : x_M) (size : Nat) (c : Nat → Nat) (o0 o1 : Nat) : Prop := S 23 3 = nI size ∧ (∀ i, i < size → S 24 i = nI (c i)) ∧ S 25 0 = nI o0 ∧ S 25 1 = nI o1
theorem x_or_bit {o size i : Nat} (h : i < size) : (o ||| 2 ^ size).testBit i = o.testBit i := by
  rw [Nat.testBit_or, Nat.testBit_two_pow, decide_eq_false (by omega), Bool.or_false]
theorem x_or_top {o size : Nat} : (o ||| 2 ^ size).testBit size = true := by
  rw [Nat.testBit_or, Nat.testBit_two_pow, decide_eq_true rfl, Bool.or_true]
theorem x_top_f {o size : Nat} (h : o < 2 ^ size) : o.testBit size = false := Nat.testBit_lt_two_pow h
theorem x_OB_no {l0 l1 k size o0 o1 : Nat} {c : Nat → Nat} (H : x_OB l0 l1 k size c o0 o1) (h0 : ¬ l0.testBit k = true) (h1 : ¬ l1.testBit k = true) : x_OB l0 l1 (k + 1) size c o0 o1 := by
  obtain ⟨a1, a2, a3, a4, a5, a6, a7⟩ := H
  refine ⟨fun i hi => ⟨by have := (a1 i hi).1; omega, (a1 i hi).2⟩, a2, fun q hq hb => ?_, a4, a5, a6, ?_⟩
  · by_cases hk : q = k
    · subst hk
      rcases hb with hb | hb
      · exact absurd hb h0
      · exact absurd hb h1
    · exact a3 q (by omega) hb
  · rw [x_pop_s, x_pop_s, if_neg h0, if_neg h1]
    exact a7
theorem x_OB_c {l0 l1 k size o0 o1 p0 p1 : Nat} {c : Nat → Nat} (H : x_OB l0 l1 k size c o0 o1) (hp : (l0.testBit k = true ∧ l1.testBit k = false ∧ p0 = o0 ||| 2 ^ size ∧ p1 = o1) ∨ (l0.testBit k = false ∧ l1.testBit k = true ∧ p0 = o0 ∧ p1 = o1 ||| 2 ^ size)) : x_OB l0 l1 (k + 1) (size + 1) (fun i => if i = size then k else c i) p0 p1 := by
  obtain ⟨a1, a2, a3, a4, a5, a6, a7⟩ := H
  have h2 : 2 ^ size < 2 ^ (size + 1) := Nat.pow_lt_pow_right (by omega) (by omega)
  refine ⟨fun i hi => ?_, fun i j hij hj => ?_, fun q hq hb => ?_, fun i hi => ?_, ?_, ?_, ?_⟩
  · show (if i = size then k else c i) < k + 1 ∧ (l0.testBit (if i = size then k else c i) = true ∨ l1.testBit (if i = size then k else c i) = true)
    by_cases h : i = size
    · rw [if_pos h]
      refine ⟨by omega, ?_⟩
      rcases hp with ⟨q1, q2, _⟩ | ⟨q1, q2, _⟩
      · exact Or.inl q1
      · exact Or.inr q2
    · rw [if_neg h]
      have := a1 i (by omega)
      exact ⟨by omega, this.2⟩
  · show (if i = size then k else c i) < (if j = size then k else c j)
    rw [if_neg (show ¬ i = size by omega)]
    by_cases h : j = size
    · rw [if_pos h]
      exact (a1 i (by omega)).1
    · rw [if_neg h]
      exact a2 i j hij (by omega)
  · by_cases hk : q = k
    · exact ⟨size, by omega, by show (if size = size then k else c size) = q; rw [if_pos rfl, hk]⟩
    · obtain ⟨i, hi, e⟩ := a3 q (by omega) hb
      exact ⟨i, by omega, by show (if i = size then k else c i) = q; rw [if_neg (by omega), e]⟩
  · show p0.testBit i = l0.testBit (if i = size then k else c i) ∧ p1.testBit i = l1.testBit (if i = size then k else c i)
    by_cases h : i = size
    · rw [if_pos h, h]
      rcases hp with ⟨q1, q2, q3, q4⟩ | ⟨q1, q2, q3, q4⟩
      · rw [q3, q4, q1, q2]
        exact ⟨x_or_top, x_top_f a6⟩
      · rw [q3, q4, q1, q2]
        exact ⟨x_top_f a5, x_or_top⟩
    · rw [if_neg h]
      have := a4 i (by omega)
      rcases hp with ⟨q1, q2, q3, q4⟩ | ⟨q1, q2, q3, q4⟩
      · rw [q3, q4, x_or_bit (by omega)]
        exact this
      · rw [q3, q4, x_or_bit (by omega)]
        exact this
  · rcases hp with ⟨q1, q2, q3, q4⟩ | ⟨q1, q2, q3, q4⟩
    · rw [q3]; exact Nat.or_lt_two_pow (by omega) h2
    · rw [q3]; omega
  · rcases hp with ⟨q1, q2, q3, q4⟩ | ⟨q1, q2, q3, q4⟩
    · rw [q4]; omega
    · rw [q4]; exact Nat.or_lt_two_pow (by omega) h2
  · rw [x_pop_s, x_pop_s]
    rcases hp with ⟨q1, q2, _⟩ | ⟨q1, q2, _⟩
    · rw [if_pos q1, if_neg (by rw [q2]; decide)]
      omega
    · rw [if_neg (by rw [q1]; decide), if_pos q2]
      omega
/-- four are all that there are -/
theorem x_OB_end {l0 l1 k size o0 o1 n : Nat} {c : Nat → Nat} (hn : n ≤ 14) (hs : 4 ≤ size) (hp : x_pop l0 14 + x_pop l1 14 ≤ 4) : ∀ j, k + j = n → x_OB l0 l1 k size c o0 o1 → x_OB l0 l1 n size c o0 o1 := by
  intro j
  induction j generalizing k with
  | zero => intro h H; rw [← h]; exact H
  | succ j ih =>
    intro h H
    have e := H.2.2.2.2.2.2
    have m0 := x_pop_mono (l := l0) (j := k + 1) 14 (by omega)
    have m1 := x_pop_mono (l := l1) (j := k + 1) 14 (by omega)
    rw [x_pop_s] at m0 m1
    refine ih (by omega) (x_OB_no H (fun z => ?_) (fun z => ?_))
    · rw [if_pos z] at m0
      split at m1 <;> omega
    · rw [if_pos z] at m1
      split at m0 <;> omega
section OPEN
variable {xs : List Int32} {d : Nat} {S : x_M} {n : Nat}
theorem x_one_shl {k : Nat} (h : k < 32) : (1 : Int32) <<< (nI k &&& 31) = nI (2 ^ k) := by
  rw [show (1 : Int32) = nI 1 from rfl, nI_shl h, Nat.one_shiftLeft]
set_option maxHeartbeats 1000000 in
theorem c_openB {l0 l1 : Nat} (hn : n ≤ 14) (h5 : S 12 5 = nI n) (b0 : l0 < 2 ^ n) (b1 : l1 < 2 ^ n) (hd : l0 &&& l1 = 0) (h0 : S 15 0 = nI l0) (h1 : S 15 1 = nI l1) (hp : x_pop l0 14 + x_pop l1 14 ≤ 4) : x_Cv xs (d + 2) 17 [.ref 23, .ref 12] S (fun S' => (∃ (size : Nat) (c : Nat → Nat) (o0 o1 : Nat), x_OB l0 l1 n size c o0 o1 ∧ x_OS S' size c o0 o1) ∧ (∀ j, j < 16384 → S' 26 j = -1000000000) ∧ ∀ p j, ¬ (p = 23 ∧ j = 3) → ¬ (24 ≤ p ∧ p ≤ 26) → S' p j = S p j) := by
  have h2n := x_2n hn
  refine x_Cv_of (by rw [ml_17]; rfl) (T_17_0 (by decide) ?_)
  intro S1 hS1 S2 hS2 S3 hS3
  have hdis : ∀ k, l0.testBit k = true → l1.testBit k = false := by
    intro k hk
    have e : (l0 &&& l1).testBit k = false := by rw [hd, Nat.zero_testBit]
    rw [Nat.testBit_and, hk, Bool.true_and] at e
    exact e
  have fin : ∀ (size : Nat) (c : Nat → Nat) (o0 o1 : Nat) (U : x_M), x_OB l0 l1 n size c o0 o1 → x_OS U size c o0 o1 → (∀ p j, ¬ (p = 23 ∧ j = 3) → ¬ (24 ≤ p ∧ p ≤ 26) → U p j = S p j) → ∃ P : x_M → Prop, x_Cv xs (d + 1) 182 [.ref 26, .int (-1000000000)] U P ∧ ∀ U1 : x_M, P U1 → ((none : Option Value) = none ∧ (∃ (size : Nat) (c : Nat → Nat) (o0 o1 : Nat), x_OB l0 l1 n size c o0 o1 ∧ x_OS U1 size c o0 o1) ∧ (∀ j, j < 16384 → U1 26 j = -1000000000) ∧ ∀ p j, ¬ (p = 23 ∧ j = 3) → ¬ (24 ≤ p ∧ p ≤ 26) → U1 p j = S p j) := by
    intro size c o0 o1 U hO hS hF
    refine ⟨_, c_fill (n := 16384) (by decide) (by decide) (by decide), ?_⟩
    rintro U1 rfl
    refine ⟨rfl, ⟨size, c, o0, o1, hO, ?_⟩, fun j hj => x_fl_eq ⟨rfl, hj⟩, fun p j z1 z2 => by rw [x_fl_ne (by omega)]; exact hF p j z1 z2⟩
    obtain ⟨s1, s2, s3, s4⟩ := hS
    exact ⟨by rw [x_fl_ne (by omega)]; exact s1, fun i hi => by rw [x_fl_ne (by omega)]; exact s2 i hi, by rw [x_fl_ne (by omega)]; exact s3, by rw [x_fl_ne (by omega)]; exact s4⟩
  have loop : ∀ i k (size : Nat) (c : Nat → Nat) (o0 o1 : Nat) (U : x_M) (a3 : Value), k + i = n → x_OB l0 l1 k size c o0 o1 → x_OS U size c o0 o1 → (∀ p j, ¬ (p = 23 ∧ j = 3) → ¬ (24 ≤ p ∧ p ≤ 26) → U p j = S p j) → x_E xs (d + 2) 17 21 [.ref 23, .ref 12, .int (nI k), a3] [] U (fun r S' => r = none ∧ (∃ (size : Nat) (c : Nat → Nat) (o0 o1 : Nat), x_OB l0 l1 n size c o0 o1 ∧ x_OS S' size c o0 o1) ∧ (∀ j, j < 16384 → S' 26 j = -1000000000) ∧ ∀ p j, ¬ (p = 23 ∧ j = 3) → ¬ (24 ≤ p ∧ p ≤ 26) → S' p j = S p j) := by
    intro i
    induction i with
    | zero =>
      intro k size c o0 o1 U a3 hk hO hS hF
      have hk : k = n := by omega
      subst hk
      refine T_17_21 (by decide) ?_
      rw [hF 12 5 (by omega) (by omega), h5, if_pos (Int32.le_refl _)]
      exact fin size c o0 o1 U hO hS hF
    | succ i ih =>
      intro k size c o0 o1 U a3 hk hO hS hF
      have hle : size ≤ 4 := by
        have e := hO.2.2.2.2.2.2
        have m0 := x_pop_mono (l := l0) (j := k) 14 (by omega)
        have m1 := x_pop_mono (l := l1) (j := k) 14 (by omega)
        omega
      refine T_17_21 (by decide) ?_
      rw [hF 12 5 (by omega) (by omega), h5, if_neg (nI_ge (by omega) (by omega)), hS.1]
      by_cases h4 : 4 ≤ size
      · rw [if_pos (show (4 : Int32) ≤ nI size from nI_le (a := 4) h4 (by omega))]
        exact fin size c o0 o1 U (x_OB_end hn h4 hp (i + 1) hk hO) hS hF
      rw [if_neg (show ¬ (4 : Int32) ≤ nI size from nI_ge (b := 4) (by omega) (by decide))]
      obtain ⟨s1, s2, s3, s4⟩ := hS
      have u0 : U 15 0 = nI l0 := by rw [hF 15 0 (by omega) (by omega)]; exact h0
      have u1 : U 15 1 = nI l1 := by rw [hF 15 1 (by omega) (by omega)]; exact h1
      have next : ∀ (size : Nat) (c : Nat → Nat) (o0 o1 : Nat) (U : x_M) (a3 : Value), x_OB l0 l1 (k + 1) size c o0 o1 → x_OS U size c o0 o1 → (∀ p j, ¬ (p = 23 ∧ j = 3) → ¬ (24 ≤ p ∧ p ≤ 26) → U p j = S p j) → x_E xs (d + 2) 17 21 [.ref 23, .ref 12, .int (nI k + 1), a3] [] U (fun r S' => r = none ∧ (∃ (size : Nat) (c : Nat → Nat) (o0 o1 : Nat), x_OB l0 l1 n size c o0 o1 ∧ x_OS S' size c o0 o1) ∧ (∀ j, j < 16384 → S' 26 j = -1000000000) ∧ ∀ p j, ¬ (p = 23 ∧ j = 3) → ¬ (24 ≤ p ∧ p ≤ 26) → S' p j = S p j) := by
        intro size c o0 o1 U a3 hO hS hF
        rw [← nI_succ]
        exact ih (k + 1) size c o0 o1 U a3 (by omega) hO hS hF
      -- hand 0
      refine T_17_39 (by decide) ?_
      rw [if_neg (show ¬ (2 : Int32) ≤ 0 by decide), s1, if_neg (show ¬ (4 : Int32) ≤ nI size from nI_ge (b := 4) (by omega) (by decide)), show x_rr 12 2 = 15 from rfl, show (0 : Int32).toNatClampNeg = 0 by decide, u0, x_bt_n (by omega) (by omega), x_bit01, show (0 : Int32) + 1 = 1 by decide]
      have ib0 : x_ib (0 : Int32) 2 := x_ib_n (k := 0) (by omega) (by decide)
      have ib1 : x_ib (1 : Int32) 2 := x_ib_n (k := 1) (by omega) (by decide)
      refine ⟨ib0, ?_⟩
      by_cases t0 : l0.testBit k = true
      · rw [if_pos t0, if_pos (by decide)]
        have t1 := hdis k t0
        refine ⟨ib0, ib0, ?_⟩
        rw [s3, x_one_shl (by omega), nI_or]
        intro V1 hV1
        have v1 : V1 23 3 = nI size := by rw [hV1, x_up_ne (by omega)]; exact s1
        rw [v1, nI_clamp (by omega)]
        refine ⟨x_ib_n (by omega) (by decide), ?_⟩
        intro V2 hV2
        rw [show V2 23 3 = nI size by rw [hV2, x_up_ne (by omega)]; exact v1, ← nI_succ]
        intro V3 hV3
        have hO' := x_OB_c hO (Or.inl ⟨t0, t1, rfl, rfl⟩)
        have hS' : x_OS V3 (size + 1) (fun i => if i = size then k else c i) (o0 ||| 2 ^ size) o1 := by
          refine ⟨by rw [hV3]; exact x_up_at _ _ _ _, fun i hi => ?_, ?_, ?_⟩
          · show V3 24 i = nI (if i = size then k else c i)
            by_cases hi2 : i = size
            · rw [if_pos hi2, hV3, x_up_ne (by omega), hV2, hi2]
              exact x_up_at _ _ _ _
            · rw [if_neg hi2, hV3, x_up_ne (by omega), hV2, x_up_ne (by omega), hV1, x_up_ne (by omega)]
              exact s2 i (by omega)
          · rw [hV3, x_up_ne (by omega), hV2, x_up_ne (by omega), hV1]
            exact x_up_at _ _ _ _
          · rw [hV3, x_up_ne (by omega), hV2, x_up_ne (by omega), hV1, x_up_ne (by omega)]
            exact s4
        have hF' : ∀ p j, ¬ (p = 23 ∧ j = 3) → ¬ (24 ≤ p ∧ p ≤ 26) → V3 p j = S p j := fun p j z1 z2 => by
          rw [hV3, x_up_ne (by omega), hV2, x_up_ne (by omega), hV1, x_up_ne (by omega)]
          exact hF p j z1 z2
        refine T_17_39 (by decide) ?_
        rw [if_neg (show ¬ (2 : Int32) ≤ 1 by decide), hS'.1]
        by_cases h42 : 4 ≤ size + 1
        · rw [if_pos (show (4 : Int32) ≤ nI (size + 1) from nI_le (a := 4) h42 (by omega))]
          exact next _ _ _ _ V3 _ hO' hS' hF'
        · rw [if_neg (show ¬ (4 : Int32) ≤ nI (size + 1) from nI_ge (b := 4) (by omega) (by decide)), show x_rr 12 2 = 15 from rfl, show (1 : Int32).toNatClampNeg = 1 by decide, hF' 15 1 (by omega) (by omega), h1, x_bt_n (by omega) (by omega), x_bit01, if_neg (show ¬ l1.testBit k = true by rw [t1]; decide), if_neg (by decide), show (1 : Int32) + 1 = 2 by decide]
          refine ⟨ib1, T_17_39 (by decide) ?_⟩
          rw [if_pos (Int32.le_refl _)]
          exact next _ _ _ _ V3 _ hO' hS' hF'
      · rw [if_neg t0, if_neg (by decide)]
        refine T_17_39 (by decide) ?_
        rw [if_neg (show ¬ (2 : Int32) ≤ 1 by decide), s1, if_neg (show ¬ (4 : Int32) ≤ nI size from nI_ge (b := 4) (by omega) (by decide)), show x_rr 12 2 = 15 from rfl, show (1 : Int32).toNatClampNeg = 1 by decide, u1, x_bt_n (by omega) (by omega), x_bit01, show (1 : Int32) + 1 = 2 by decide]
        refine ⟨ib1, ?_⟩
        by_cases t1 : l1.testBit k = true
        · rw [if_pos t1, if_pos (by decide)]
          refine ⟨ib1, ib1, ?_⟩
          rw [s4, x_one_shl (by omega), nI_or]
          intro V1 hV1
          have v1 : V1 23 3 = nI size := by rw [hV1, x_up_ne (by omega)]; exact s1
          rw [v1, nI_clamp (by omega)]
          refine ⟨x_ib_n (by omega) (by decide), ?_⟩
          intro V2 hV2
          rw [show V2 23 3 = nI size by rw [hV2, x_up_ne (by omega)]; exact v1, ← nI_succ]
          intro V3 hV3
          have hO' := x_OB_c hO (Or.inr ⟨by simpa using t0, t1, rfl, rfl⟩)
          have hS' : x_OS V3 (size + 1) (fun i => if i = size then k else c i) o0 (o1 ||| 2 ^ size) := by
            refine ⟨by rw [hV3]; exact x_up_at _ _ _ _, fun i hi => ?_, ?_, ?_⟩
            · show V3 24 i = nI (if i = size then k else c i)
              by_cases hi2 : i = size
              · rw [if_pos hi2, hV3, x_up_ne (by omega), hV2, hi2]
                exact x_up_at _ _ _ _
              · rw [if_neg hi2, hV3, x_up_ne (by omega), hV2, x_up_ne (by omega), hV1, x_up_ne (by omega)]
                exact s2 i (by omega)
            · rw [hV3, x_up_ne (by omega), hV2, x_up_ne (by omega), hV1, x_up_ne (by omega)]
              exact s3
            · rw [hV3, x_up_ne (by omega), hV2, x_up_ne (by omega), hV1]
              exact x_up_at _ _ _ _
          have hF' : ∀ p j, ¬ (p = 23 ∧ j = 3) → ¬ (24 ≤ p ∧ p ≤ 26) → V3 p j = S p j := fun p j z1 z2 => by
            rw [hV3, x_up_ne (by omega), hV2, x_up_ne (by omega), hV1, x_up_ne (by omega)]
            exact hF p j z1 z2
          refine T_17_39 (by decide) ?_
          rw [if_pos (Int32.le_refl _)]
          exact next _ _ _ _ V3 _ hO' hS' hF'
        · rw [if_neg t1, if_neg (by decide)]
          refine T_17_39 (by decide) ?_
          rw [if_pos (Int32.le_refl _)]
          exact next _ _ _ _ U _ (x_OB_no hO t0 t1) ⟨s1, s2, s3, s4⟩ hF
  refine loop n 0 0 (fun _ => 0) 0 0 S3 _ (by omega) ⟨fun i hi => by omega, fun i j _ hj => by omega, fun q hq => by omega, fun i hi => by omega, by decide, by decide, rfl⟩ ⟨?_, fun i hi => by omega, ?_, ?_⟩ (fun p j z1 z2 => ?_)
  · rw [hS3, x_up_ne (by omega), hS2, x_up_ne (by omega), hS1]; exact x_up_at _ _ _ _
  · rw [hS3, x_up_ne (by omega), hS2]; exact x_up_at _ _ _ _
  · rw [hS3]; exact x_up_at _ _ _ _
  · rw [hS3, x_up_ne (by omega), hS2, x_up_ne (by omega), hS1, x_up_ne (by omega)]
end OPEN
