/-! feed -/
theorem x_byte (x : Int32) : ∃ b : Nat, b < 256 ∧ x &&& 255 = nI b := by
  refine ⟨x.toBitVec.toNat &&& 255, Nat.lt_succ_of_le Nat.and_le_right, ?_⟩
  have h : x = nI x.toBitVec.toNat := by
    apply Int32.toBitVec.inj
    rw [nI_bv, BitVec.ofNat_toNat, BitVec.setWidth_eq]
  have h2 : x &&& 255 = nI x.toBitVec.toNat &&& nI 255 := congrArg (fun z => z &&& (255 : Int32)) h
  rw [h2, nI_and]
theorem x_byte_and (a : Int64) : Int64.toInt32 (a &&& 255) = Int64.toInt32 a &&& 255 := by
  rw [Int64.toInt32_and]
  rfl
def x_byt (w : Int64) (i : Nat) : Int32 := Int64.toInt32 (w >>> ((Int32.toInt64 (nI (8 * i))) &&& 63)) &&& 255
def x_app (S : x_M) (p n : Nat) (f : Nat → Int32) (k : Nat) : x_M := fun q j => if q = p ∧ n ≤ j ∧ j < n + k then f (j - n) else S q j
theorem x_app_eq {S : x_M} {p n q j k : Nat} {f : Nat → Int32} (h : q = p ∧ n ≤ j ∧ j < n + k) : x_app S p n f k q j = f (j - n) := if_pos h
theorem x_app_ne {S : x_M} {p n q j k : Nat} {f : Nat → Int32} (h : ¬ (q = p ∧ n ≤ j ∧ j < n + k)) : x_app S p n f k q j = S q j := if_neg h
section FEED
variable {xs : List Int32} {d : Nat} {S : x_M}
theorem c_append {n : Nat} {v : Int32} (hn : S 10 1 = nI n) (hn4 : n < 400) : x_Cv xs (d + 1) 29 [.ref 10, .int v] S (fun S' => S' = x_up (x_up S 11 n v) 10 1 (nI (n + 1))) := by
  refine x_Cv_of (by rw [ml_29]; rfl) (T_29_0 ?_)
  rw [hn, if_neg (show ¬ (400 : Int32) ≤ nI n from nI_ge (a := n) (b := 400) (by omega) (by decide)), nI_clamp (by omega)]
  refine ⟨x_ib_n (by omega) (by decide), ?_⟩
  rintro S1 rfl S2 hS2
  rw [x_up_ne (by omega), hn, ← nI_succ] at hS2
  exact ⟨rfl, hS2⟩
theorem x_add_m1 {k : Nat} : nI (k + 1) + (-1) = nI k := by
  rw [nI_succ, Int32.add_assoc, show (1 : Int32) + (-1) = 0 by decide, Int32.add_zero]
theorem c_feedC {n m : Nat} {w : Int64} (hn : S 10 1 = nI n) (hm : n + m ≤ 400) : x_E xs (d + 2) 50 37 [.ref 8, .long w, .null, .int (nI m), .int (nI m - 1)] [] S (fun r S' => ∃ v : Int32, r = some (.int v) ∧ v = nI (n + m) ∧ S' = x_up (x_app S 11 n (fun j => x_byt w (m - 1 - j)) m) 10 1 (nI (n + m))) := by
  have loop : ∀ i k (T : x_M), k + i = m → T = x_up (x_app S 11 n (fun j => x_byt w (m - 1 - j)) k) 10 1 (nI (n + k)) → x_E xs (d + 2) 50 37 [.ref 8, .long w, .null, .int (nI m), .int (nI i - 1)] [] T (fun r S' => ∃ v : Int32, r = some (.int v) ∧ v = nI (n + m) ∧ S' = x_up (x_app S 11 n (fun j => x_byt w (m - 1 - j)) m) 10 1 (nI (n + m))) := by
    intro i
    induction i with
    | zero =>
      intro k T hk hT
      have hkm : k = m := by omega
      subst hkm
      refine T_50_37 ?_
      rw [if_pos (by decide)]
      exact ⟨_, rfl, by rw [hT, x_up_at], hT⟩
    | succ i ih =>
      intro k T hk hT
      refine T_50_37 ?_
      rw [show nI (i + 1) - 1 = nI i from nI_sub (b := 1) (by omega), if_neg (nI_pos (by omega)), show (8 : Int32) * nI i = nI (8 * i) from nI_mul 8 i]
      refine ⟨_, c_append (n := n + k) (by rw [hT, x_up_at]) (by omega), ?_⟩
      intro S1 hS1
      have e : nI i + (-1) = nI i - 1 := by rw [Int32.sub_eq_add_neg]
      rw [e]
      refine ih (k + 1) S1 (by omega) ?_
      rw [hS1, hT]
      funext p q
      by_cases h1 : p = 10 ∧ q = 1
      · rw [x_up_eq h1, x_up_eq h1]
        congr 1
      · rw [x_up_ne h1, x_up_ne h1]
        by_cases h2 : p = 11 ∧ q = n + k
        · rw [x_up_eq h2, x_app_eq (by omega)]
          show _ = x_byt w (m - 1 - (q - n))
          rw [show m - 1 - (q - n) = i by omega]
          rfl
        · rw [x_up_ne h2, x_up_ne h1]
          by_cases h3 : p = 11 ∧ n ≤ q ∧ q < n + k
          · rw [x_app_eq h3, x_app_eq (by omega)]
          · rw [x_app_ne h3, x_app_ne (by omega)]
  refine loop m 0 S (by omega) ?_
  funext p q
  by_cases h1 : p = 10 ∧ q = 1
  · rw [x_up_eq h1, h1.1, h1.2, hn]
    rfl
  · rw [x_up_ne h1, x_app_ne (by omega)]
theorem c_feedM {n m : Nat} {w : Int64} (hn : S 56 2 = nI n) (hm : n + m ≤ 400) : x_E xs (d + 2) 108 35 [.ref 56, .long w, .null, .int (nI m), .int (nI m - 1)] [] S (fun r S' => ∃ v : Int32, r = some (.int v) ∧ v = nI (n + m) ∧ S' = x_up (x_app S 58 n (fun j => x_byt w (m - 1 - j)) m) 56 2 (nI (n + m))) := by
  have loop : ∀ i k (T : x_M), k + i = m → T = x_up (x_app S 58 n (fun j => x_byt w (m - 1 - j)) k) 56 2 (nI (n + k)) → x_E xs (d + 2) 108 35 [.ref 56, .long w, .null, .int (nI m), .int (nI i - 1)] [] T (fun r S' => ∃ v : Int32, r = some (.int v) ∧ v = nI (n + m) ∧ S' = x_up (x_app S 58 n (fun j => x_byt w (m - 1 - j)) m) 56 2 (nI (n + m))) := by
    intro i
    induction i with
    | zero =>
      intro k T hk hT
      have hkm : k = m := by omega
      subst hkm
      refine T_108_35 ?_
      rw [if_pos (by decide)]
      exact ⟨_, rfl, by rw [hT, x_up_at], hT⟩
    | succ i ih =>
      intro k T hk hT
      refine T_108_35 ?_
      have t2 : T 56 2 = nI (n + k) := by rw [hT, x_up_at]
      rw [show nI (i + 1) - 1 = nI i from nI_sub (b := 1) (by omega), if_neg (nI_pos (by omega)), show (8 : Int32) * nI i = nI (8 * i) from nI_mul 8 i, t2, nI_clamp (by omega), x_byte_and]
      refine ⟨x_ib_n (by omega) (by decide), ?_⟩
      rintro S1 rfl S2 hS2
      have e : nI i + (-1) = nI i - 1 := by rw [Int32.sub_eq_add_neg]
      rw [e]
      refine ih (k + 1) S2 (by omega) ?_
      rw [hS2, x_up_ne (by omega), t2, ← nI_succ, hT]
      funext p q
      by_cases h1 : p = 56 ∧ q = 2
      · rw [x_up_eq h1, x_up_eq h1]
        congr 1
      · rw [x_up_ne h1, x_up_ne h1]
        by_cases h2 : p = 58 ∧ q = n + k
        · rw [x_up_eq h2, x_app_eq (by omega)]
          show _ = x_byt w (m - 1 - (q - n))
          rw [show m - 1 - (q - n) = i by omega]
          rfl
        · rw [x_up_ne h2, x_up_ne h1]
          by_cases h3 : p = 58 ∧ n ≤ q ∧ q < n + k
          · rw [x_app_eq h3, x_app_eq (by omega)]
          · rw [x_app_ne h3, x_app_ne (by omega)]
  refine loop m 0 S (by omega) ?_
  funext p q
  by_cases h1 : p = 56 ∧ q = 2
  · rw [x_up_eq h1, h1.1, h1.2, hn]
    rfl
  · rw [x_up_ne h1, x_app_ne (by omega)]
theorem x_le8 {a b : Int32} {m : Nat} (hb : b.toInt = m) (hm : m < 2 ^ 31) : (1 ≤ a ∧ a ≤ b) ↔ ∃ k : Nat, 1 ≤ k ∧ k ≤ m ∧ a = nI k := by
  have e1 : (1 : Int32).toInt = 1 := by decide
  constructor
  · rintro ⟨h1, h2⟩
    rw [Int32.le_iff_toInt_le, e1] at h1
    rw [Int32.le_iff_toInt_le, hb] at h2
    obtain ⟨k, hk, rfl⟩ := nI_of (x := a) (by rw [x_lt0]; omega)
    rw [nI_toInt hk] at h1 h2
    exact ⟨k, by omega, by omega, rfl⟩
  · rintro ⟨k, h1, h2, rfl⟩
    rw [Int32.le_iff_toInt_le, Int32.le_iff_toInt_le, e1, hb, nI_toInt (by omega)]
    omega
theorem x_in1 {a b : Int32} {l : Int64} (hl : l = b.toInt64) : decide ((1 : Int64) ≤ a.toInt64 ∧ a.toInt64 ≤ l) = decide (1 ≤ a ∧ a ≤ b) := by
  have h0 : (1 : Int64) = (1 : Int32).toInt64 := by decide
  rw [h0, hl]
  simp only [x_i64_le]
theorem x_lt1 {a : Int32} : a < 1 ↔ ¬ 1 ≤ a := Int32.not_le.symm
theorem o_feed {w : Int64} {m : Int32} (H : x_Inv S) : x_Ci xs (d + 2) 50 [.ref 8, .long w, .int m] S (fun v S1 => x_Ci xs (d + 2) 108 [.ref 56, .long w, .int m] S1 (fun u S2 => u = v ∧ x_Inv S2)) := by
  have e8 : (8 : Int32).toInt = (8 : Nat) := by decide
  by_cases hb : 1 ≤ m ∧ m ≤ 8
  · obtain ⟨k, k1, k2, rfl⟩ := (x_le8 e8 (by decide)).mp hb
    obtain ⟨n, t1, t2, t3, t4⟩ := H.2.1
    by_cases hr : n + k ≤ 400
    · have hx : x_Ci xs (d + 2) 50 [.ref 8, .long w, .int (nI k)] S (fun v S' => v = nI (n + k) ∧ S' = x_up (x_app S 11 n (fun j => x_byt w (k - 1 - j)) k) 10 1 (nI (n + k))) := by
        refine x_Ci_of (by rw [ml_50]; rfl) (T_50_0 ?_)
        rw [if_neg (fun z => x_lt1.mp z hb.1), if_pos hb.2, t2, show (400 : Int32) - nI k = nI (400 - k) from nI_sub (a := 400) (by omega), if_pos (nI_le (by omega) (by omega))]
        exact c_feedC t2 hr
      refine x_Ci_weak hx ?_
      rintro v T ⟨rfl, hT⟩
      have hz : x_Ci xs (d + 2) 108 [.ref 56, .long w, .int (nI k)] T (fun v S' => v = nI (n + k) ∧ S' = x_up (x_app T 58 n (fun j => x_byt w (k - 1 - j)) k) 56 2 (nI (n + k))) := by
        refine x_Ci_of (by rw [ml_108]; rfl) (T_108_0 (x_rd c_in ?_))
        have e : T 56 2 = nI n := by rw [hT, x_up_ne (by omega), x_app_ne (by omega)]; exact t3
        rw [x_in1 (b := 8) (by decide), if_neg (x_b_ne (by rw [decide_eq_true_eq]; exact hb)), e, nI_add, if_pos (show nI (n + k) ≤ 400 from nI_le (b := 400) (by omega) (by decide))]
        exact c_feedM e hr
      refine x_Ci_weak hz ?_
      rintro u S2 ⟨rfl, hS2⟩
      refine ⟨rfl, ?_⟩
      have key : ∀ p j, p ≠ 11 → p ≠ 58 → ¬ (p = 10 ∧ j = 1) → ¬ (p = 56 ∧ j = 2) → S2 p j = S p j := fun p j z1 z2 z3 z4 => by rw [hS2, x_up_ne z4, x_app_ne (by omega), hT, x_up_ne z3, x_app_ne (by omega)]
      obtain ⟨h1, h2, ⟨h3, h4, h5⟩, h6, h7, h8⟩ := H
      refine ⟨fun r hr => x_RI_c hr (fun p q hp => key p q (by omega) (by omega) (by omega) (by omega)) (h1 r hr), ⟨n + k, hr, ?_, ?_, ?_⟩, ⟨x_GI_c (fun p q hp => key p q (by omega) (by omega) (by omega) (by omega)) h3, x_GI_c (fun p q hp => key p q (by omega) (by omega) (by omega) (by omega)) h4, x_GI_c (fun p q hp => key p q (by omega) (by omega) (by omega) (by omega)) h5⟩, x_UI_c (fun p q hp => key p q (by omega) (by omega) (by omega) (by omega)) h6, x_BI_c (fun p q hp => key p q (by omega) (by omega) (by omega) (by omega)) h7, x_FI_c (fun p q hp => key p q (by omega) (by omega) (by omega) (by omega)) h8⟩
      · rw [hS2, x_up_ne (by omega), x_app_ne (by omega), hT, x_up_at]
      · rw [hS2, x_up_at]
      · intro i hi
        by_cases hin : n ≤ i
        · rw [hS2, x_up_ne (by omega), x_app_eq (by omega), x_up_ne (by omega), x_app_ne (by omega), hT, x_up_ne (by omega), x_app_eq (by omega)]
          refine ⟨rfl, ?_⟩
          exact x_byte _
        · rw [hS2, x_up_ne (by omega), x_app_ne (by omega), x_up_ne (by omega), x_app_ne (by omega), hT, x_up_ne (by omega), x_app_ne (by omega), x_up_ne (by omega), x_app_ne (by omega)]
          exact t4 i (by omega)
    · refine x_Op_rd (A := [.long w, .int (nI k)]) (v := -1000003) H ?_ ?_
      · refine x_Ci_of (by rw [ml_50]; rfl) (T_50_0 ?_)
        rw [if_neg (fun z => x_lt1.mp z hb.1), if_pos hb.2, t2, show (400 : Int32) - nI k = nI (400 - k) from nI_sub (a := 400) (by omega), if_neg (nI_ge (by omega) (by omega))]
        exact x_rt_i rfl
      · refine x_Ci_of (by rw [ml_108]; rfl) (T_108_0 (x_rd c_in ?_))
        rw [x_in1 (b := 8) (by decide), if_neg (x_b_ne (by rw [decide_eq_true_eq]; exact hb)), t3, nI_add, if_neg (show ¬ nI (n + k) ≤ 400 from nI_ge (a := 400) (by omega) (by omega))]
        exact x_rt_i rfl
  · refine x_Op_rd (A := [.long w, .int m]) (v := -1000001) H ?_ ?_
    · refine x_Ci_of (by rw [ml_50]; rfl) (T_50_0 ?_)
      by_cases h1 : m < 1
      · rw [if_pos h1]; exact x_rt_i rfl
      · rw [if_neg h1, if_neg (fun z => hb ⟨Int32.not_lt.mp h1, z⟩)]; exact x_rt_i rfl
    · refine x_Ci_of (by rw [ml_108]; rfl) (T_108_0 (x_rd c_in ?_))
      rw [x_in1 (b := 8) (by decide), if_pos (x_b_0.mpr (fun z => hb (by rw [decide_eq_true_eq] at z; exact z)))]
      exact x_rt_i rfl
end FEED
