section OMEAN
variable {xs : List Int32} {d : Nat} {S : x_M}
theorem x_inz1 {a : Int32} : decide ((0 : Int64) ≤ a.toInt64 ∧ a.toInt64 ≤ 1) = decide (0 ≤ a ∧ a ≤ 1) := by
  rw [show (1 : Int64) = (1 : Int32).toInt64 by decide, x_in0]
/-- what the class answers to a mean that is none -/
theorem c_meanBad {a w e : Int32} {n : Nat} (n1 : n ≤ 14) (n2 : S 12 5 = nI n) (h : ¬ ((0 ≤ a ∧ a < nI n) ∧ (0 ≤ w ∧ w ≤ 7) ∧ (0 ≤ e ∧ e ≤ 1))) : x_Cr xs (d + 4) 73 [.ref 8, .int a, .int w, .int e] S (-1000001) := by
  refine x_Ci_of (by rw [ml_73]; rfl) (T_73_0 (x_rd c_isPlay ?_))
  rw [n2]
  by_cases h1 : (0 ≤ a ∧ a < nI n) ∧ (0 ≤ w ∧ w ≤ 7)
  · rw [if_neg (x_b_ne (by rw [Bool.and_eq_true, decide_eq_true_eq, decide_eq_true_eq]; exact h1))]
    by_cases h2 : e < 0
    · rw [if_pos h2]
      exact x_rt_i rfl
    · rw [if_neg h2, if_neg (fun z => h ⟨h1.1, h1.2, Int32.not_lt.mp h2, z⟩)]
      exact x_rt_i rfl
  · rw [if_pos (x_b_0.mpr (fun z => h1 (by rw [Bool.and_eq_true, decide_eq_true_eq, decide_eq_true_eq] at z; exact z)))]
    exact x_rt_i rfl
theorem c_meanBadM {a w e : Int32} {n : Nat} (n1 : n ≤ 14) (n3 : S 57 1 = nI n) (h : ¬ ((0 ≤ a ∧ a < nI n) ∧ (0 ≤ w ∧ w ≤ 7) ∧ (0 ≤ e ∧ e ≤ 1))) : x_Cr xs (d + 4) 143 [.ref 56, .int a, .int w, .int e] S (-1000001) := by
  refine x_Ci_of (by rw [ml_143]; rfl) (T_143_0 (x_rd c_isCardM ?_))
  rw [n3]
  by_cases h1 : 0 ≤ a ∧ a < nI n
  · rw [if_neg (x_b_ne (by rw [decide_eq_true_eq, x_crd n1]; exact h1))]
    refine x_rd c_isWayM ?_
    by_cases h2 : 0 ≤ w ∧ w ≤ 7
    · rw [if_neg (x_b_ne (by rw [decide_eq_true_eq]; exact h2))]
      refine x_rd c_in ?_
      rw [x_inz1, if_pos (x_b_0.mpr (fun z => h ⟨h1, h2, by rw [decide_eq_true_eq] at z; exact z⟩))]
      exact x_rt_i rfl
    · rw [if_pos (x_b_0.mpr (fun z => h2 (by rw [decide_eq_true_eq] at z; exact z)))]
      exact x_rt_i rfl
  · rw [if_pos (x_b_0.mpr (fun z => h1 (by rw [decide_eq_true_eq, x_crd n1] at z; exact z)))]
    exact x_rt_i rfl
/-- above or below -/
def x_mval (e above below g : Int32) : Int32 := if e = 0 then above / g else below / g
theorem x_sh511 {s : Nat} (h : s < 512) : (if s = 0 then 511 else s) < 512 := by split <;> omega
set_option maxHeartbeats 1000000 in
theorem o_mean {a w e : Int32} (H : x_Inv S) : x_Op xs (d + 4) 73 143 [.int a, .int w, .int e] S := by
  obtain ⟨n, n1, n2, n3, n4⟩ := x_view H
  by_cases hb : (0 ≤ a ∧ a < nI n) ∧ (0 ≤ w ∧ w ≤ 7) ∧ (0 ≤ e ∧ e ≤ 1)
  case neg => exact x_Op_rd H (c_meanBad n1 n2 hb) (c_meanBadM n1 n3 hb)
  case pos =>
  obtain ⟨hb, hy, he⟩ := hb
  obtain ⟨c, hc, rfl⟩ := x_crd_n n1 hb
  obtain ⟨y, hyy, rfl⟩ := x_way_n hy
  rcases n4 with n4 | ⟨p1, p2, p3, p4⟩
  · omega
  obtain ⟨L, T, hB, hC, hM⟩ := x_vw n1 n2 n3 p4
  obtain ⟨q1, q2, A, q3, q4, q5⟩ := p4
  obtain ⟨m0, hm0, em0⟩ := q5.1
  have c6 : S 12 6 = nI m0 := q3.1.trans em0
  have m25 : S 57 25 = nI m0 := q4.1.trans em0
  have ho := x_ot_lt q5
  have h2 := x_2n n1
  have hL := hB.2.2 (8 * c + y) (by omega)
  have hT := hB.2.1
  have hs1 : m0 &&& L (8 * c + y) < 512 := Nat.lt_of_le_of_lt Nat.and_le_left hm0
  have hw1 := x_wN_9 (P := m0 &&& L (8 * c + y)) hT
  by_cases hh : (x_hd A).testBit c = true
  case neg =>
    refine x_Op_rd (v := -1000002) H ?_ ?_
    · refine x_Ci_of (by rw [ml_73]; rfl) (T_73_0 (x_rd c_isPlay ?_))
      rw [n2, if_neg (x_b_ne (by rw [Bool.and_eq_true, decide_eq_true_eq, decide_eq_true_eq]; exact ⟨hb, hy⟩)), if_neg (Int32.not_lt.mpr he.1), if_pos he.2]
      refine x_rd (c_mayLay (by decide) n2 n1 hc q3 q5) ?_
      rw [if_pos (x_b_0.mpr hh)]
      exact x_rt_i rfl
    · refine x_Ci_of (by rw [ml_143]; rfl) (T_143_0 (x_rd c_isCardM ?_))
      rw [n3, if_neg (x_b_ne (by rw [decide_eq_true_eq, x_crd n1]; exact hb))]
      refine x_rd c_isWayM ?_
      rw [if_neg (x_b_ne (by rw [decide_eq_true_eq]; exact hy))]
      refine x_rd c_in ?_
      rw [x_inz1, if_neg (x_b_ne (by rw [decide_eq_true_eq]; exact he))]
      refine x_rd (c_isInHand n1 hc q4 q5) ?_
      rw [if_pos (x_b_0.mpr hh)]
      exact x_rt_i rfl
  case pos =>
  generalize hs : m0 &&& L (8 * c + y) = s at hs1 hw1
  generalize how : x_wN T s 9 = ow at hw1
  generalize hot : x_ot A = o at ho
  have hp14 := x_pop_le (l := o) 14
  have hsum := x_mws_le (L := L) (o := o) (sh := if s = 0 then 511 else s) hT (8 * n)
  have hcnt : x_mwc o (8 * n) = 8 * x_pop o 14 := by
    unfold x_mwc
    rw [show 8 * n / 8 = n by omega, show 8 * n % 8 = 0 by omega, x_pop_n n1 ho]
    split <;> rfl
  have hsh := x_sh511 hs1
  generalize hbe : 8 * x_pop o 14 = below at hcnt
  have hbe2 : below ≤ 112 := by omega
  generalize hsm : x_mws L T o (if s = 0 then 511 else s) (8 * n) = sm at hsum
  have hob : ow * below ≤ 891 * 112 := Nat.mul_le_mul hw1 hbe2
  obtain ⟨m, hm, em1, em2⟩ := x_absd (a := ow * below) (b := sm) (by omega) (by omega)
  have e0 : e = 0 ∨ e = 1 := by
    obtain ⟨j, hj, rfl⟩ := x_le_nat (n := 1) (Int32.not_lt.mpr he.1) he.2 (by decide)
    rcases (by omega : j = 0 ∨ j = 1) with rfl | rfl
    · exact Or.inl rfl
    · exact Or.inr rfl
  -- the reference
  have hMo : x_Cr xs (d + 4) 143 [.ref 56, .int (nI c), .int (nI y), .int e] S (if below = 0 then (if e = 0 then nI ow else 1) else x_mval e (nI (ow * below) - nI sm) (nI below) (nI (Nat.gcd below m))) := by
    refine x_Ci_of (by rw [ml_143]; rfl) (T_143_0 (x_rd c_isCardM ?_))
    rw [n3, if_neg (x_b_ne (by rw [decide_eq_true_eq, x_crd n1]; exact hb))]
    refine x_rd c_isWayM ?_
    rw [if_neg (x_b_ne (by rw [decide_eq_true_eq]; exact hy))]
    refine x_rd c_in ?_
    rw [x_inz1, if_neg (x_b_ne (by rw [decide_eq_true_eq]; exact he))]
    refine x_rd (c_isInHand n1 hc q4 q5) ?_
    rw [if_neg (x_b_ne hh), x_8cw]
    refine ⟨x_ib_n (by omega) (by decide), ?_⟩
    rw [nI_clamp (by omega), hM.2.2 (8 * c + y) (by omega), m25, nI_and, hs]
    refine x_rd (c_worM hM hs1) ?_
    rw [how]
    have go : x_E xs (d + 3 + 1) 143 81 [.ref 56, .int (nI c), .int (nI y), .int e, .int (nI s), .int (nI ow), .null, .null, .null, .null, .null, .null] [.int (nI (if s = 0 then 511 else s))] S (fun r S' => ∃ v : Int32, r = some (.int v) ∧ v = (if below = 0 then (if e = 0 then nI ow else 1) else x_mval e (nI (ow * below) - nI sm) (nI below) (nI (Nat.gcd below m))) ∧ S' = S) := by
      refine T_143_81 ?_
      have hh2 := q5.2.2.2.2.1
      rw [show S 57 27 = nI (x_Ah A) from q4.2.2.1, show (31 : Int32) - nI (x_Ah A) = nI (31 - x_Ah A) from nI_sub (a := 31) (by omega)]
      refine ⟨x_ib_n (by omega) (by decide), ?_⟩
      rw [nI_clamp (by omega)]
      have eo : S 57 (31 - x_Ah A) = nI o := by
        rw [← hot]
        unfold x_ot
        rcases (by omega : x_Ah A = 0 ∨ x_Ah A = 1) with e1 | e1
        · rw [e1]; exact q4.2.2.2.2.2.2.1
        · rw [e1]; exact q4.2.2.2.2.2.1
      rw [eo]
      refine c_meanSum hM hB ho hsh ?_
      rw [hsm, hcnt]
      refine T_143_109 ?_
      rw [hM.1, show (8 : Int32) * nI n = nI (8 * n) from nI_mul 8 n, if_pos (Int32.le_refl _)]
      by_cases hz : below = 0
      · rw [hz, if_pos (show nI 0 = 0 by decide), if_pos (show nI 0 = 0 by decide), if_pos rfl]
        refine T_143_195 ?_
        have hdv := c_divisor (xs := xs) (d := d + 2) (S := S) (b := 1) (m := ow) (a := nI ow) (by omega) (by omega) (Or.inl ⟨nI_pos' (by omega), rfl⟩)
        refine x_rd hdv ?_
        rw [Nat.gcd_one_left]
        rcases e0 with rfl | rfl
        · rw [if_pos rfl, if_pos rfl]
          refine ⟨by decide, x_rt_i ?_⟩
          rw [nI_div (by omega) (by omega), Nat.div_one]
        · rw [if_neg (by decide), if_neg (by decide)]
          refine ⟨by decide, x_rt_i ?_⟩
          decide
      · have hne : ¬ nI below = 0 := nI_ne0 (by omega) (by omega)
        rw [if_neg hne, if_neg hne, if_neg hz, nI_mul]
        refine T_143_195 (x_rd (c_divisor hm hbe2 em2) ?_)
        have hg0 : 0 < Nat.gcd below m := Nat.gcd_pos_of_pos_left m (by omega)
        have hg1 : Nat.gcd below m ≤ below := Nat.gcd_le_left m (by omega)
        have hgne : ¬ nI (Nat.gcd below m) = 0 := nI_ne0 hg0 (by omega)
        unfold x_mval
        rcases e0 with rfl | rfl
        · rw [if_pos rfl, if_pos rfl]
          exact ⟨hgne, x_rt_i rfl⟩
        · rw [if_neg (by decide), if_neg (by decide)]
          exact ⟨hgne, x_rt_i rfl⟩
    by_cases hz : s = 0
    · rw [hz] at go ⊢
      rw [if_pos rfl] at go
      rw [if_pos (show nI 0 = 0 by decide)]
      exact go
    · rw [if_neg hz] at go
      rw [if_neg (nI_ne0 (by omega) (by omega))]
      exact go
  refine x_Op_rd H ?_ hMo
  refine x_Ci_of (by rw [ml_73]; rfl) (T_73_0 (x_rd c_isPlay ?_))
  rw [n2, if_neg (x_b_ne (by rw [Bool.and_eq_true, decide_eq_true_eq, decide_eq_true_eq]; exact ⟨hb, hy⟩)), if_neg (Int32.not_lt.mpr he.1), if_pos he.2]
  refine x_rd (c_mayLay (by decide) n2 n1 hc q3 q5) ?_
  rw [if_neg (x_b_ne hh)]
  refine x_rd (c_lieC hC n1 hc hyy) ?_
  rw [c6, nI_and, hs]
  refine x_rd (c_worC hC hs1) ?_
  rw [how]
  refine x_rd (c_waiting (by decide) q3 q5) ?_
  rw [hot]
  refine x_rd (c_bitCount (by omega)) ?_
  rw [show (8 : Int32) * nI (x_pop o 14) = nI (8 * x_pop o 14) from nI_mul 8 _, hbe]
  by_cases hz : below = 0
  · rw [hz, if_pos (show nI 0 = 0 by decide), if_pos rfl]
    rcases e0 with rfl | rfl
    · rw [if_pos rfl, if_pos rfl]
      exact x_rt_i rfl
    · rw [if_neg (by decide), if_neg (by decide)]
      exact x_rt_i rfl
  · rw [if_neg (nI_ne0 (by omega) (by omega)), if_neg hz]
    have go : x_E xs (d + 3 + 1) 73 124 [.ref 8, .int (nI c), .int (nI y), .int e, .int (nI s), .int (nI ow), .int (nI o), .int (nI below), .null, .null] [.int (nI (if s = 0 then 511 else s)), .int (nI o), .ref 12, .int (nI ow * nI below)] S (fun r S' => ∃ v : Int32, r = some (.int v) ∧ v = x_mval e (nI (ow * below) - nI sm) (nI below) (nI (Nat.gcd below m)) ∧ S' = S) := by
      refine T_73_124 (x_rd (c_worthOfAll hC hB ho hsh) ?_)
      rw [hsm, nI_mul, em1]
      refine x_rd (c_shared hm (by omega) hbe2) ?_
      have hg0 : 0 < Nat.gcd below m := Nat.gcd_pos_of_pos_left m (by omega)
      have hg1 : Nat.gcd below m ≤ below := Nat.gcd_le_left m (by omega)
      have hgne : ¬ nI (Nat.gcd below m) = 0 := nI_ne0 hg0 (by omega)
      unfold x_mval
      rcases e0 with rfl | rfl
      · rw [if_pos rfl, if_pos rfl]
        exact ⟨hgne, x_rt_i rfl⟩
      · rw [if_neg (by decide), if_neg (by decide)]
        exact ⟨hgne, x_rt_i rfl⟩
    by_cases hz2 : s = 0
    · rw [hz2] at go ⊢
      rw [if_pos rfl] at go
      rw [if_pos (show nI 0 = 0 by decide)]
      exact go
    · rw [if_neg hz2] at go
      rw [if_neg (nI_ne0 (by omega) (by omega))]
      exact go
end OMEAN
