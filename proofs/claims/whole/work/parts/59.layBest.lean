/-! BEST, by the reference: levels -/
def x_Lv (S : x_M) (k : Nat) (B : x_Bs) : Prop := S 68 k = nI (x_bS B) ∧ S 69 k = nI (x_bH B) ∧ S 70 (2 * k) = nI (x_b0 B) ∧ S 70 (2 * k + 1) = nI (x_b1 B)
def x_li (B : x_Bs) : Int32 := if x_b0 B = 0 ∧ x_b1 B = 0 then 0 else -268435456
section LAYBEST
variable {xs : List Int32} {d : Nat} {S : x_M} {n : Nat} {L T : Nat → Nat}
theorem x_2k (k : Nat) : (2 : Int32) * nI k = nI (2 * k) := nI_mul 2 k
theorem c_openLevel {k s h l0 l1 : Nat} (hk : k < 6) (h0 : S 70 (2 * k) = nI l0) (h1 : S 70 (2 * k + 1) = nI l1) (b0 : l0 < 2 ^ 31) (b1 : l1 < 2 ^ 31) : x_Cv xs (d + 1) 141 [.ref 56, .int (nI k), .int (nI s), .int (nI h)] S (fun S' => x_Lv S' k (s, h, l0, l1) ∧ S' 71 k = 0 ∧ S' 73 k = x_li (s, h, l0, l1) ∧ ∀ p j, ¬ ((p = 68 ∨ p = 69 ∨ p = 71 ∨ p = 73) ∧ j = k) → S' p j = S p j) := by
  refine x_Cv_of (by rw [ml_141]; rfl) (T_141_0 ?_)
  rw [x_2k, show nI (2 * k) + 1 = nI (2 * k + 1) from nI_add _ 1, nI_clamp (n := k) (by omega), nI_clamp (n := 2 * k) (by omega), nI_clamp (n := 2 * k + 1) (by omega)]
  have ibk : x_ib (nI k) 6 := x_ib_n hk (by decide)
  refine ⟨ibk, fun S1 hS1 => ⟨ibk, fun S2 hS2 => ⟨ibk, fun S3 hS3 => ⟨x_ib_n (by omega) (by decide), ?_⟩⟩⟩⟩
  have key : ∀ (U : x_M) (z : Int32), U = x_up S3 73 k z → z = x_li (s, h, l0, l1) → (none : Option Value) = none ∧ x_Lv U k (s, h, l0, l1) ∧ U 71 k = 0 ∧ U 73 k = x_li (s, h, l0, l1) ∧ ∀ p j, ¬ ((p = 68 ∨ p = 69 ∨ p = 71 ∨ p = 73) ∧ j = k) → U p j = S p j := by
    intro U z hU hz
    refine ⟨rfl, ⟨?_, ?_, ?_, ?_⟩, ?_, ?_, ?_⟩
    · rw [hU, x_up_ne (by omega), hS3, x_up_ne (by omega), hS2, x_up_ne (by omega), hS1]; exact x_up_at _ _ _ _
    · rw [hU, x_up_ne (by omega), hS3, x_up_ne (by omega), hS2]; exact x_up_at _ _ _ _
    · rw [hU, x_up_ne (by omega), hS3, x_up_ne (by omega), hS2, x_up_ne (by omega), hS1, x_up_ne (by omega)]; exact h0
    · rw [hU, x_up_ne (by omega), hS3, x_up_ne (by omega), hS2, x_up_ne (by omega), hS1, x_up_ne (by omega)]; exact h1
    · rw [hU, x_up_ne (by omega), hS3]; exact x_up_at _ _ _ _
    · rw [hU, ← hz]; exact x_up_at _ _ _ _
    · intro p j hp
      rw [hU, x_up_ne (by omega), hS3, x_up_ne (by omega), hS2, x_up_ne (by omega), hS1, x_up_ne (by omega)]
  have f0 : S3 70 (2 * k) = nI l0 := by rw [hS3, x_up_ne (by omega), hS2, x_up_ne (by omega), hS1, x_up_ne (by omega)]; exact h0
  have f1 : S3 70 (2 * k + 1) = nI l1 := by rw [hS3, x_up_ne (by omega), hS2, x_up_ne (by omega), hS1, x_up_ne (by omega)]; exact h1
  rw [f0, f1]
  have k0 : nI l0 = 0 ↔ l0 = 0 := nI_eq0 b0
  have k1 : nI l1 = 0 ↔ l1 = 0 := nI_eq0 b1
  by_cases z0 : l0 = 0
  · rw [if_pos (k0.mpr z0)]
    refine ⟨x_ib_n (by omega) (by decide), ?_⟩
    by_cases z1 : l1 = 0
    · rw [if_pos (k1.mpr z1)]
      exact ⟨ibk, fun S6 hS6 => key S6 _ hS6 (by unfold x_li; exact (if_pos ⟨z0, z1⟩).symm)⟩
    · rw [if_neg (fun z => z1 (k1.mp z))]
      exact ⟨ibk, fun S6 hS6 => key S6 _ hS6 (by unfold x_li; exact (if_neg (fun z => z1 z.2)).symm)⟩
  · rw [if_neg (fun z => z0 (k0.mp z))]
    exact ⟨ibk, fun S6 hS6 => key S6 _ hS6 (by unfold x_li; exact (if_neg (fun z => z0 z.1)).symm)⟩
set_option maxHeartbeats 2000000 in
theorem c_goDown {k v f : Nat} {B : x_Bs} (hk : k < 5) (hV : x_VM S n L T) (hB : x_VB n L T) (hW : x_BW n f B) (hL : x_Lv S k B) (hv : S 71 k = nI v) (hv8 : v < 8 * n) (hb : (x_bh B).testBit (v / 8) = true) : x_Ci xs (d + 3) 142 [.ref 56, .int (nI k)] S (fun r S' => r = 1 ∧ x_Lv S' (k + 1) (x_bnx L v B) ∧ S' 71 (k + 1) = 0 ∧ S' 73 (k + 1) = x_li (x_bnx L v B) ∧ S' 72 k = nI (x_wN T (x_bS B &&& L v) 9) ∧ ∀ p j, ¬ ((p = 68 ∨ p = 69 ∨ p = 71 ∨ p = 73) ∧ j = k + 1) → ¬ (p = 72 ∧ j = k) → ¬ (p = 70 ∧ (j = 2 * k + 2 ∨ j = 2 * k + 3)) → S' p j = S p j) := by
  have hn := hB.1
  have h2n := x_2n hn
  have hlt := x_bh_lt hW
  obtain ⟨w1, w2, w3, w4, w5, w6⟩ := hW
  obtain ⟨e68, e69, e70, e71⟩ := hL
  refine x_Ci_of (by rw [ml_142]; rfl) (T_142_0 ?_)
  rw [nI_clamp (n := k) (by omega), e69, hv, x_2k, show nI (2 * k) + nI (x_bH B) = nI (2 * k + x_bH B) from nI_add _ _, show nI (2 * k) + 1 = nI (2 * k + 1) from nI_add _ 1, show nI (2 * k) + 2 = nI (2 * k + 2) from nI_add _ 2, show nI (2 * k) + 3 = nI (2 * k + 3) from nI_add _ 3, show nI (2 * k + 2) + nI (x_bH B) = nI (2 * k + 2 + x_bH B) from nI_add _ _, show nI k + 1 = nI (k + 1) from nI_add _ 1, show nI v / 8 = nI (v / 8) from nI_div (b := 8) (by omega) (by omega), nI_clamp (n := v) (by omega), nI_clamp (n := 2 * k) (by omega), nI_clamp (n := 2 * k + 1) (by omega), nI_clamp (n := 2 * k + 2) (by omega), nI_clamp (n := 2 * k + 3) (by omega), nI_clamp (n := 2 * k + x_bH B) (by omega), nI_clamp (n := 2 * k + 2 + x_bH B) (by omega)]
  have ehd : S 70 (2 * k + x_bH B) = nI (x_bh B) := by
    unfold x_bh
    rcases (by omega : x_bH B = 0 ∨ x_bH B = 1) with h | h
    · rw [h]; exact e70
    · rw [h]; exact e71
  refine ⟨x_ib_n (by omega) (by decide), x_ib_n (by omega) (by decide), x_ib_n (by omega) (by decide), ?_⟩
  rw [ehd]
  refine x_rd c_has ?_
  rw [x_has_n (by omega) (by omega), if_neg (x_b_ne hb)]
  refine ⟨x_ib_n (by omega) (by decide), x_ib_n (by omega) (by decide), ?_⟩
  rw [e68, hV.2.2 v hv8, nI_and]
  have hs1 : x_bS B &&& L v < 512 := Nat.lt_of_le_of_lt Nat.and_le_left w1
  intro x2 hx2
  rw [hx2]
  refine x_rd (c_worM hV hs1) ?_
  refine ⟨x_ib_n (by omega) (by decide), ?_⟩
  intro S4 hS4
  refine ⟨x_ib_n (by omega) (by decide), x_ib_n (by omega) (by decide), ?_⟩
  intro S5 hS5
  refine ⟨x_ib_n (by omega) (by decide), x_ib_n (by omega) (by decide), ?_⟩
  intro S6 hS6
  refine ⟨x_ib_n (by omega) (by decide), x_ib_n (by omega) (by decide), ?_⟩
  have g4 : S4 70 (2 * k) = nI (x_b0 B) := by rw [hS4, x_up_ne (by omega)]; exact e70
  rw [g4] at hS5
  have g5 : S5 70 (2 * k + 1) = nI (x_b1 B) := by rw [hS5, x_up_ne (by omega), hS4, x_up_ne (by omega)]; exact e71
  rw [g5] at hS6
  have g60 : S6 70 (2 * k + 2) = nI (x_b0 B) := by rw [hS6, x_up_ne (by omega), hS5]; exact x_up_at _ _ _ _
  have g61 : S6 70 (2 * k + 3) = nI (x_b1 B) := by rw [hS6]; exact x_up_at _ _ _ _
  have g6h : S6 70 (2 * k + 2 + x_bH B) = nI (x_bh B) := by
    unfold x_bh
    rcases (by omega : x_bH B = 0 ∨ x_bH B = 1) with h | h
    · rw [h]; exact g60
    · rw [h]; exact g61
  rw [g6h, x_cl0_n (by omega)]
  intro S7 hS7
  -- what the next level has
  have f0 : S7 70 (2 * (k + 1)) = nI (if x_bH B = 0 then x_cl0 (x_b0 B) (v / 8) else x_b0 B) := by
    rw [show 2 * (k + 1) = 2 * k + 2 by omega]
    rcases (by omega : x_bH B = 0 ∨ x_bH B = 1) with h | h
    · rw [if_pos h, hS7, x_up_eq ⟨rfl, by omega⟩]
      unfold x_bh
      rw [if_pos h]
    · rw [if_neg (by omega), hS7, x_up_ne (by omega)]
      exact g60
  have f1 : S7 70 (2 * (k + 1) + 1) = nI (if x_bH B = 0 then x_b1 B else x_cl0 (x_b1 B) (v / 8)) := by
    rw [show 2 * (k + 1) + 1 = 2 * k + 3 by omega]
    rcases (by omega : x_bH B = 0 ∨ x_bH B = 1) with h | h
    · rw [if_pos h, hS7, x_up_ne (by omega)]
      exact g61
    · rw [if_neg (by omega), hS7, x_up_eq ⟨rfl, by omega⟩]
      unfold x_bh
      rw [if_neg (by omega)]
  have b0 : (if x_bH B = 0 then x_cl0 (x_b0 B) (v / 8) else x_b0 B) < 2 ^ 31 := by
    have := x_cl0_le (x_b0 B) (v / 8)
    split <;> omega
  have b1 : (if x_bH B = 0 then x_b1 B else x_cl0 (x_b1 B) (v / 8)) < 2 ^ 31 := by
    have := x_cl0_le (x_b1 B) (v / 8)
    split <;> omega
  have frame7 : ∀ p j, ¬ (p = 72 ∧ j = k) → ¬ (p = 70 ∧ (j = 2 * k + 2 ∨ j = 2 * k + 3)) → S7 p j = S p j := fun p j z1 z2 => by
    rw [hS7, x_up_ne (by omega), hS6, x_up_ne (by omega), hS5, x_up_ne (by omega), hS4, x_up_ne (by omega)]
  have f72 : S7 72 k = nI (x_wN T (x_bS B &&& L v) 9) := by rw [hS7, x_up_ne (by omega), hS6, x_up_ne (by omega), hS5, x_up_ne (by omega), hS4]; exact x_up_at _ _ _ _
  have fo : S7 70 (2 * k + 3 - x_bH B) = nI (x_bo B) := by
    unfold x_bo
    rcases (by omega : x_bH B = 0 ∨ x_bH B = 1) with h | h
    · rw [if_pos h, show 2 * k + 3 - x_bH B = 2 * (k + 1) + 1 by omega, f1, if_pos h]
    · rw [if_neg (by omega), show 2 * k + 3 - x_bH B = 2 * (k + 1) by omega, f0, if_neg (by omega)]
  have hob : x_bo B < 2 ^ 31 := by unfold x_bo; split <;> omega
  have fin : ∀ s : Nat, s = (if x_bS B &&& L v = 0 then 511 else x_bS B &&& L v) → x_E xs (d + 2 + 1) 142 141 [.ref 56, .int (nI k), .int (nI v), .int (nI (x_bH B)), .int (nI (x_bS B &&& L v))] [.int (nI s), .int (nI (k + 1)), .ref 56] S7 (fun r S' => ∃ v_1 : Int32, r = some (.int v_1) ∧ v_1 = 1 ∧ x_Lv S' (k + 1) (x_bnx L v B) ∧ S' 71 (k + 1) = 0 ∧ S' 73 (k + 1) = x_li (x_bnx L v B) ∧ S' 72 k = nI (x_wN T (x_bS B &&& L v) 9) ∧ ∀ p j, ¬ ((p = 68 ∨ p = 69 ∨ p = 71 ∨ p = 73) ∧ j = k + 1) → ¬ (p = 72 ∧ j = k) → ¬ (p = 70 ∧ (j = 2 * k + 2 ∨ j = 2 * k + 3)) → S' p j = S p j) := by
    intro s hs
    refine T_142_141 ?_
    rw [x_2k, show nI (2 * k) + 3 = nI (2 * k + 3) from nI_add _ 3, nI_sub (by omega), nI_clamp (n := 2 * k + 3 - x_bH B) (by omega), fo]
    refine ⟨x_ib_n (by omega) (by decide), ?_⟩
    have done : ∀ hh : Nat, hh = (if x_bo B = 0 then x_bH B else 1 - x_bH B) → ∀ S8 : x_M, (x_Lv S8 (k + 1) (s, hh, (if x_bH B = 0 then x_cl0 (x_b0 B) (v / 8) else x_b0 B), (if x_bH B = 0 then x_b1 B else x_cl0 (x_b1 B) (v / 8))) ∧ S8 71 (k + 1) = 0 ∧ S8 73 (k + 1) = x_li (s, hh, (if x_bH B = 0 then x_cl0 (x_b0 B) (v / 8) else x_b0 B), (if x_bH B = 0 then x_b1 B else x_cl0 (x_b1 B) (v / 8))) ∧ ∀ p j, ¬ ((p = 68 ∨ p = 69 ∨ p = 71 ∨ p = 73) ∧ j = k + 1) → S8 p j = S7 p j) → ∃ v_1 : Int32, some (Value.int 1) = some (.int v_1) ∧ v_1 = 1 ∧ x_Lv S8 (k + 1) (x_bnx L v B) ∧ S8 71 (k + 1) = 0 ∧ S8 73 (k + 1) = x_li (x_bnx L v B) ∧ S8 72 k = nI (x_wN T (x_bS B &&& L v) 9) ∧ ∀ p j, ¬ ((p = 68 ∨ p = 69 ∨ p = 71 ∨ p = 73) ∧ j = k + 1) → ¬ (p = 72 ∧ j = k) → ¬ (p = 70 ∧ (j = 2 * k + 2 ∨ j = 2 * k + 3)) → S8 p j = S p j := by
      intro hh hhh S8 hp
      rw [hs, hhh] at hp
      obtain ⟨q1, q2, q3, q4⟩ := hp
      exact ⟨_, rfl, rfl, q1, q2, q3, by rw [q4 72 k (by omega)]; exact f72, fun p j z1 z2 z3 => by rw [q4 p j z1]; exact frame7 p j z2 z3⟩
    by_cases hz : x_bo B = 0
    · rw [if_pos ((nI_eq0 hob).mpr hz)]
      refine ⟨_, c_openLevel (by omega) f0 f1 b0 b1, ?_⟩
      intro S8 hp
      exact done _ (if_pos hz).symm S8 hp
    · rw [if_neg (fun z => hz ((nI_eq0 hob).mp z)), show (1 : Int32) - nI (x_bH B) = nI (1 - x_bH B) from nI_sub (a := 1) (by omega)]
      refine ⟨_, c_openLevel (by omega) f0 f1 b0 b1, ?_⟩
      intro S8 hp
      exact done _ (if_neg hz).symm S8 hp
  by_cases hz : x_bS B &&& L v = 0
  · rw [if_pos ((nI_eq0 (by omega)).mpr hz)]
    exact fin 511 (by rw [if_pos hz])
  · rw [if_neg (fun z => hz ((nI_eq0 (by omega)).mp z))]
    exact fin _ (by rw [if_neg hz])
theorem c_goNot {k v f : Nat} {B : x_Bs} (hk : k < 5) (hB : x_VB n L T) (hW : x_BW n f B) (hL : x_Lv S k B) (hv : S 71 k = nI v) (hv8 : v < 8 * n) (hb : ¬ (x_bh B).testBit (v / 8) = true) : x_Cr xs (d + 3) 142 [.ref 56, .int (nI k)] S 0 := by
  have hn := hB.1
  have h2n := x_2n hn
  have hlt := x_bh_lt hW
  obtain ⟨w1, w2, w3, w4, w5, w6⟩ := hW
  obtain ⟨e68, e69, e70, e71⟩ := hL
  refine x_Ci_of (by rw [ml_142]; rfl) (T_142_0 ?_)
  rw [nI_clamp (n := k) (by omega), e69, hv, x_2k, show nI (2 * k) + nI (x_bH B) = nI (2 * k + x_bH B) from nI_add _ _, show nI v / 8 = nI (v / 8) from nI_div (b := 8) (by omega) (by omega), nI_clamp (n := 2 * k + x_bH B) (by omega)]
  have ehd : S 70 (2 * k + x_bH B) = nI (x_bh B) := by
    unfold x_bh
    rcases (by omega : x_bH B = 0 ∨ x_bH B = 1) with h | h
    · rw [h]; exact e70
    · rw [h]; exact e71
  refine ⟨x_ib_n (by omega) (by decide), x_ib_n (by omega) (by decide), x_ib_n (by omega) (by decide), ?_⟩
  rw [ehd]
  refine x_rd c_has ?_
  rw [x_has_n (by omega) (by omega), if_pos (x_b_0.mpr hb)]
  exact x_rt_i rfl
end LAYBEST
