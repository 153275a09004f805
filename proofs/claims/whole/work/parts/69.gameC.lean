def t_tabq (tp : Nat → Nat) (n : Nat) : Nat := (t_tab tp n (t_q tp n 0)).2
def t_game (tp : Nat → Nat) (n : Nat) : Nat × Nat × Nat := if (t_tab tp n (t_q tp n 0)).1 = 0 then t_cards tp n 15 0 (t_tabq tp n) else ((t_tab tp n (t_q tp n 0)).1, t_tabq tp n, 0)
/-- the table's numbers -/
def t_tv (tp : Nat → Nat) (n k : Nat) : Nat := t_vl tp n (t_it tp n (t_nx tp n (t_q tp n 0)) k)
section GAMEC
variable {xs : List Int32} {d : Nat} {S : x_M} {tp : Nat → Nat} {n : Nat}
theorem t_k_0 {q : Nat} : t_k tp n q = 0 ↔ n ≤ q := by
  unfold t_k
  by_cases h : q < n
  · rw [if_pos h]
    refine ⟨fun z => ?_, fun z => by omega⟩
    split at z
    · omega
    · split at z
      · split at z <;> omega
      · split at z <;> omega
  · rw [if_neg h]
    exact ⟨fun _ => by omega, fun _ => rfl⟩
theorem c_readGame (hC : t_C S tp n) (hB : t_B tp n) : x_Ci xs (d + 7) 52 [.ref 10, .ref 17] S (fun r S' => r = nI (t_game tp n).1 ∧ S' 10 3 = nI (t_game tp n).2.1 ∧ (t_game tp n).1 ≤ 3 ∧ ((t_game tp n).1 = 0 → 1 ≤ (t_game tp n).2.2 ∧ (t_game tp n).2.2 ≤ 14 ∧ t_RC S' tp n (t_tabq tp n) (t_game tp n).2.2 ∧ ∀ k, k < 9 → S' 18 k = nI (t_tv tp n k) ∧ t_tv tp n k ≤ 99) ∧ ∀ p k, ¬ (p = 10 ∧ 2 ≤ k) → ¬ (17 ≤ p ∧ p ≤ 20) → S' p k = S p k) := by
  have hn := hB.1
  refine x_Ci_of (by rw [ml_52]; rfl) (T_52_0 (by decide) ?_)
  have hclear : x_Cv xs (d + 6) 1 [.ref 17] S (fun S' => S' 17 5 = nI 0 ∧ S' 20 0 = nI 0 ∧ S' 20 1 = nI 0 ∧ ∀ p k, ¬ (17 ≤ p ∧ p ≤ 20) → S' p k = S p k) := by
    refine x_Cv_of (by rw [ml_1]; rfl) (T_1_0 (by decide) ?_)
    rw [show x_rr 17 2 = 20 from rfl]
    intro S1 hS1 S2 hS2 S3 hS3
    refine ⟨rfl, ?_, ?_, ?_, fun p k z => by rw [hS3, x_up_ne (by omega), hS2, x_up_ne (by omega), hS1, x_up_ne (by omega)]⟩
    · rw [hS3, x_up_ne (by omega), hS2, x_up_ne (by omega), hS1]; exact x_up_at _ _ _ _
    · rw [hS3, x_up_ne (by omega), hS2]; exact x_up_at _ _ _ _
    · rw [hS3]; exact x_up_at _ _ _ _
  refine ⟨_, hclear, ?_⟩
  rintro S1 ⟨a1, a2, a3, a4⟩
  have hC1 : t_C S1 tp n := t_C_c (fun p k hp => a4 p k (by omega)) hC
  have hrew : x_Cv xs (d + 6) 30 [.ref 10] S1 (fun S' => t_TC S' tp n (t_q tp n 0) ∧ t_FA S1 S') := by
    refine x_Cv_of (by rw [ml_30]; rfl) (T_30_0 ?_)
    intro V hV
    refine ⟨_, c_advance (p := 0) (t_C_c (fun p k hp => by rw [hV, x_up_ne (by omega)]) hC1) hB (by omega) (by rw [hV]; exact x_up_at _ _ _ _), ?_⟩
    rintro W ⟨w1, w2⟩
    exact ⟨rfl, w1, fun p k z => by rw [w2 p k z, hV, x_up_ne (by omega)]⟩
  refine ⟨_, hrew, ?_⟩
  rintro S2 ⟨hT2, hF2⟩
  have hC2 := t_C_FA hF2 hC1
  have hq0 := (t_q_le (tp := tp) _ 0 rfl (show 0 ≤ n by omega)).2
  refine ⟨_, c_readTable hC2 hB hq0 hT2, ?_⟩
  rintro v S3 ⟨rfl, hT3, hq1, htab, hF3⟩
  have hC3 : t_C S3 tp n := t_C_c (fun p k hp => hF3 p k (by omega) (by omega)) hC2
  have hfb : (t_tab tp n (t_q tp n 0)).1 ≤ 2 := by
    have hnums : ∀ k q, (t_nums tp n k q).1 ≤ 2 := by
      intro k
      induction k with
      | zero => intro q; exact Nat.zero_le _
      | succ k ih =>
        intro q
        show (if t_nf tp n q 99 = 0 then t_nums tp n k (t_nx tp n q) else (t_nf tp n q 99, q)).1 ≤ 2
        split
        · exact ih _
        · exact t_nf_b
    unfold t_tab
    split
    · split
      · unfold t_sig
        split
        · exact Nat.zero_le _
        · exact Nat.le_succ 1
      · exact hnums _ _
    · exact Nat.le_succ 1
  by_cases hz : (t_tab tp n (t_q tp n 0)).1 = 0
  case neg =>
    refine T_52_16 (by decide) ?_
    have e : t_game tp n = ((t_tab tp n (t_q tp n 0)).1, t_tabq tp n, 0) := by unfold t_game; rw [if_neg hz]
    rw [if_neg (nI_ne0 (by omega) (by omega)), e]
    refine ⟨_, rfl, rfl, hT3.1, by show (t_tab tp n (t_q tp n 0)).1 ≤ 3; omega, fun z => absurd z hz, fun p k z1 z2 => ?_⟩
    rw [hF3 p k z1 (by omega), hF2 p k z1, a4 p k z2]
  case pos =>
  have e : t_game tp n = t_cards tp n 15 0 (t_tabq tp n) := by unfold t_game; rw [if_pos hz]
  have hT3 : t_TC S3 tp n (t_tabq tp n) := hT3
  have hq1 : t_tabq tp n ≤ n := hq1
  rw [hz, e]
  generalize hq1d : t_tabq tp n = q1 at hT3 hq1
  have loop : ∀ f m (U : x_M), m + f = 15 → m ≤ 14 → t_cards tp n f m (t_qc tp n q1 m) = t_cards tp n 15 0 q1 → t_C U tp n → t_TC U tp n (t_qc tp n q1 m) → t_qc tp n q1 m ≤ n → t_RC U tp n q1 m → (∀ k, k < 9 → U 18 k = nI (t_tv tp n k) ∧ t_tv tp n k ≤ 99) → (∀ p k, ¬ (p = 10 ∧ 2 ≤ k) → ¬ (17 ≤ p ∧ p ≤ 20) → U p k = S p k) → x_E xs (d + 7) 52 16 [.ref 10, .ref 17, .int (nI 0), .int (nI m)] [] U (fun r S' => ∃ v : Int32, r = some (.int v) ∧ v = nI (t_cards tp n 15 0 q1).1 ∧ S' 10 3 = nI (t_cards tp n 15 0 q1).2.1 ∧ (t_cards tp n 15 0 q1).1 ≤ 3 ∧ ((t_cards tp n 15 0 q1).1 = 0 → 1 ≤ (t_cards tp n 15 0 q1).2.2 ∧ (t_cards tp n 15 0 q1).2.2 ≤ 14 ∧ t_RC S' tp n q1 (t_cards tp n 15 0 q1).2.2 ∧ ∀ k, k < 9 → S' 18 k = nI (t_tv tp n k) ∧ t_tv tp n k ≤ 99) ∧ ∀ p k, ¬ (p = 10 ∧ 2 ≤ k) → ¬ (17 ≤ p ∧ p ≤ 20) → S' p k = S p k) := by
    intro f
    induction f with
    | zero => intro m U h1 h2; omega
    | succ f ih =>
      intro m U hmf hm14 hcs hCU hTU hql hRU htab hFU
      refine T_52_16 (by decide) ?_
      have hstep : t_cards tp n (f + 1) m (t_qc tp n q1 m) = if 0 < m ∧ n ≤ t_qc tp n q1 m then (0, t_qc tp n q1 m, m) else if (t_card tp n m (t_qc tp n q1 m)).1 = 0 then t_cards tp n f (m + 1) (t_card tp n m (t_qc tp n q1 m)).2 else ((t_card tp n m (t_qc tp n q1 m)).1, (t_card tp n m (t_qc tp n q1 m)).2, m) := rfl
      rw [if_pos (show nI 0 = 0 by decide), if_neg (show ¬ (14 : Int32) < nI m from nI_nlt (a := 14) hm14 (by omega))]
      -- a card is read
      have go : ¬ (0 < m ∧ n ≤ t_qc tp n q1 m) → ∃ P : Int32 → x_M → Prop, x_Ci xs (d + 6) 56 [.ref 10, .ref 17] U P ∧ ∀ (v1 : Int32) (U1 : x_M), P v1 U1 → x_E xs (d + 6 + 1) 52 16 [.ref 10, .ref 17, .int v1, .int (nI m + 1)] [] U1 (fun r S' => ∃ v : Int32, r = some (.int v) ∧ v = nI (t_cards tp n 15 0 q1).1 ∧ S' 10 3 = nI (t_cards tp n 15 0 q1).2.1 ∧ (t_cards tp n 15 0 q1).1 ≤ 3 ∧ ((t_cards tp n 15 0 q1).1 = 0 → 1 ≤ (t_cards tp n 15 0 q1).2.2 ∧ (t_cards tp n 15 0 q1).2.2 ≤ 14 ∧ t_RC S' tp n q1 (t_cards tp n 15 0 q1).2.2 ∧ ∀ k, k < 9 → S' 18 k = nI (t_tv tp n k) ∧ t_tv tp n k ≤ 99) ∧ ∀ p k, ¬ (p = 10 ∧ 2 ≤ k) → ¬ (17 ≤ p ∧ p ≤ 20) → S' p k = S p k) := by
        intro hnot
        rw [if_neg hnot] at hstep
        refine ⟨_, c_readCard hm14 hCU hB hql hTU hRU rfl, ?_⟩
        rintro v1 U1 ⟨rfl, hT1, hq2, hR1, hF1⟩
        have hcb : (t_card tp n m (t_qc tp n q1 m)).1 ≤ 3 := by
          unfold t_card
          split
          · split
            · exact Nat.le_refl 3
            · split
              · split
                · unfold t_sig
                  split
                  · exact Nat.zero_le _
                  · show 1 ≤ 3; omega
                · show t_nf tp n _ 1 ≤ 3
                  have := t_nf_b (tp := tp) (n := n) (q := t_nx tp n (t_nx tp n (t_qc tp n q1 m))) (mx := 1)
                  omega
              · show 1 ≤ 3; omega
          · show 1 ≤ 3; omega
        have hF2 : ∀ p k, ¬ (p = 10 ∧ 2 ≤ k) → ¬ (17 ≤ p ∧ p ≤ 20) → U1 p k = S p k := fun p k z1 z2 => by rw [hF1 p k z1 (by omega)]; exact hFU p k z1 z2
        rw [← nI_succ]
        by_cases hc : (t_card tp n m (t_qc tp n q1 m)).1 = 0
        · rw [if_pos hc] at hstep
          rw [hc]
          have hm13 : m ≠ 14 := fun z => by rw [z] at hc; exact t_card_14 hc
          exact ih (m + 1) U1 (by omega) (by omega) (hstep.symm.trans hcs) (t_C_c (fun p k hp => hF1 p k (by omega) (by omega)) hCU) hT1 hq2 (hR1 hc) (fun k hk => by rw [hF1 18 k (by omega) (by omega)]; exact htab k hk) hF2
        · rw [if_neg hc] at hstep
          refine T_52_16 (by decide) ?_
          rw [if_neg (nI_ne0 (by omega) (by omega)), ← hcs, hstep]
          exact ⟨_, rfl, rfl, hT1.1, hcb, fun z => absurd z hc, hF2⟩
      by_cases hm0 : m = 0
      · rw [if_pos (show nI m ≤ 0 by rw [hm0]; decide)]
        exact go (fun z => by omega)
      · rw [if_neg (show ¬ nI m ≤ 0 from nI_nle (by omega) (by omega)), hTU.2.2.1]
        by_cases hend : n ≤ t_qc tp n q1 m
        · rw [if_pos (show nI (t_k tp n (t_qc tp n q1 m)) = 0 by rw [t_k_0.mpr hend]; rfl)]
          rw [if_pos ⟨by omega, hend⟩] at hstep
          rw [← hcs, hstep]
          exact ⟨_, rfl, rfl, hTU.1, Nat.zero_le _, fun _ => ⟨by show 1 ≤ m; omega, hm14, hRU, htab⟩, hFU⟩
        · have hkl := t_k_le (tp := tp) (n := n) (q := t_qc tp n q1 m)
          have h9 : ¬ t_k tp n (t_qc tp n q1 m) = 0 := fun z => hend (t_k_0.mp z)
          rw [if_neg (nI_ne0 (by omega) (by omega))]
          exact go (fun z => hend z.2)
  refine loop 15 0 S3 rfl (by omega) rfl hC3 hT3 hq1 ⟨?_, fun c hc => by omega, ?_, ?_⟩ (fun k hk => htab hz k hk) (fun p k z1 z2 => ?_)
  · rw [hF3 17 5 (by omega) (by omega), hF2 17 5 (by omega)]; exact a1
  · rw [hF3 20 0 (by omega) (by omega), hF2 20 0 (by omega)]; exact a2
  · rw [hF3 20 1 (by omega) (by omega), hF2 20 1 (by omega)]; exact a3
  · rw [hF3 p k z1 (by omega), hF2 p k z1, a4 p k z2]
/-- the cards of both hands -/
def t_l (tp : Nat → Nat) (n h : Nat) : Nat := t_lf (fun c => t_dc tp n (t_qc tp n (t_tabq tp n) c)) h (t_game tp n).2.2
/-- the game that begins -/
def t_A (tp : Nat → Nat) (n : Nat) : x_Ga := (511, 0, 0, 0, 0, t_l tp n 0, t_l tp n 1, if t_l tp n 0 = 0 then 1 else 0)
def t_hol (tp : Nat → Nat) (n c : Nat) : Nat := t_hc tp n (t_qc tp n (t_tabq tp n) c)
theorem c_gameC (hC : t_C S tp n) (hB : t_B tp n) : x_Ci xs (d + 8) 51 [.ref 8] S (fun r S' => S' 10 1 = 0 ∧ (∀ p k, ¬ p = 10 → ¬ (12 ≤ p ∧ p ≤ 21) → ¬ (p = 8 ∧ k = 8) → S' p k = S p k) ∧
    (((t_game tp n).1 = 0 ∧ r = nI (t_game tp n).2.2 ∧ S' 8 8 = S 8 8 ∧ S' 12 4 = 1 ∧ S' 12 5 = nI (t_game tp n).2.2 ∧ 1 ≤ (t_game tp n).2.2 ∧ (t_game tp n).2.2 ≤ 14 ∧ x_GC S' 12 (t_A tp n) ∧ (∀ k, k < 9 → S' 13 k = nI (t_tv tp n k) ∧ t_tv tp n k ≤ 99) ∧ ∀ c w, c < (t_game tp n).2.2 → w < 8 → S' 14 (8 * c + w) = x_lieF (nI (t_hol tp n c)) w) ∨
     (¬ (t_game tp n).1 = 0 ∧ r = (-1000100) - nI (t_game tp n).2.1 ∧ S' 8 8 = nI (t_game tp n).1 ∧ ∀ p k, 12 ≤ p → p ≤ 16 → S' p k = S p k))) := by
  refine x_Ci_of (by rw [ml_51]; rfl) (T_51_0 ?_)
  refine ⟨_, c_readGame hC hB, ?_⟩
  rintro v S1 ⟨rfl, h3, hb3, hok, hF⟩
  rw [h3]
  intro S2 hS2
  by_cases hz : (t_game tp n).1 = 0
  case neg =>
    rw [if_neg (nI_ne0 (by omega) (by omega))]
    intro S5 hS5
    refine ⟨_, rfl, by rw [hS5, x_up_ne (by omega), hS2]; exact x_up_at _ _ _ _, fun p k z1 z2 z3 => ?_, Or.inr ⟨hz, rfl, by rw [hS5]; exact x_up_at _ _ _ _, fun p k z1 z2 => ?_⟩⟩
    · rw [hS5, x_up_ne (by omega), hS2, x_up_ne (by omega)]
      exact hF p k (by omega) (by omega)
    · rw [hS5, x_up_ne (by omega), hS2, x_up_ne (by omega)]
      exact hF p k (by omega) (by omega)
  case pos =>
  obtain ⟨hm1, hm14, hR, htab⟩ := hok hz
  rw [if_pos (show nI (t_game tp n).1 = 0 by rw [hz]; rfl)]
  have hl0 : t_l tp n 0 < 2 ^ 31 := Nat.lt_of_lt_of_le (t_lf_lt _) (Nat.pow_le_pow_right (by omega) (by omega))
  have hl1 : t_l tp n 1 < 2 ^ 31 := Nat.lt_of_lt_of_le (t_lf_lt _) (Nat.pow_le_pow_right (by omega) (by omega))
  have hdeal : x_Cv xs (d + 7) 5 [.ref 17] S2 (fun S' => S' 17 4 = 1 ∧ S' 17 6 = 511 ∧ S' 17 7 = 0 ∧ S' 17 8 = x_tu (t_A tp n) ∧ S' 17 9 = 0 ∧ S' 21 0 = 0 ∧ S' 21 1 = 0 ∧ ∀ p k, ¬ (p = 17 ∧ k = 4) → ¬ (p = 17 ∧ 6 ≤ k) → p ≠ 21 → S' p k = S2 p k) := by
    refine x_Cv_of (by rw [ml_5]; rfl) (T_5_0 (by decide) ?_)
    rw [show x_rr 17 3 = 21 from rfl]
    intro V1 h1 V2 h2 V3 h3 V4 h4 V5 h5 V6 h6
    have hfr : ∀ p k, ¬ (p = 17 ∧ k = 4) → ¬ (p = 17 ∧ 6 ≤ k) → p ≠ 21 → V6 p k = S2 p k := fun p k z1 z2 z3 => by rw [h6, x_up_ne (by omega), h5, x_up_ne (by omega), h4, x_up_ne (by omega), h3, x_up_ne (by omega), h2, x_up_ne (by omega), h1, x_up_ne (by omega)]
    have e0 : V6 (17 + 3) 0 = nI (t_l tp n 0) := by rw [hfr 20 0 (by omega) (by omega) (by omega), hS2, x_up_ne (by omega)]; exact hR.2.2.1
    have e1 : V6 (17 + 3) 1 = nI (t_l tp n 1) := by rw [hfr 20 1 (by omega) (by omega) (by omega), hS2, x_up_ne (by omega)]; exact hR.2.2.2
    refine x_rd (c_handAfter (g := 17) (h := 1) (by decide) e0 e1 hl0 hl1 (by omega)) ?_
    intro V8 h8
    refine ⟨rfl, ?_, ?_, ?_, ?_, ?_, ?_, ?_, fun p k z1 z2 z3 => by rw [h8, x_up_ne (by omega)]; exact hfr p k z1 z2 z3⟩
    · rw [h8, x_up_ne (by omega), h6, x_up_ne (by omega), h5, x_up_ne (by omega), h4, x_up_ne (by omega), h3, x_up_ne (by omega), h2, x_up_ne (by omega), h1]; exact x_up_at _ _ _ _
    · rw [h8, x_up_ne (by omega), h6, x_up_ne (by omega), h5, x_up_ne (by omega), h4]; exact x_up_at _ _ _ _
    · rw [h8, x_up_ne (by omega), h6, x_up_ne (by omega), h5]; exact x_up_at _ _ _ _
    · rw [h8, x_up_at]
      unfold x_hA x_tu
      show (if t_l tp n 0 = 0 ∧ t_l tp n 1 = 0 then -1000000 else nI (if (if (1 : Nat) = 0 then t_l tp n 1 else t_l tp n 0) = 0 then 1 else 1 - 1)) = (if t_l tp n 0 = 0 ∧ t_l tp n 1 = 0 then -1000000 else nI (if t_l tp n 0 = 0 then 1 else 0))
      rw [if_neg (show ¬ (1 : Nat) = 0 by omega)]
    · rw [h8, x_up_ne (by omega), h6]; exact x_up_at _ _ _ _
    · rw [h8, x_up_ne (by omega), h6, x_up_ne (by omega), h5, x_up_ne (by omega), h4, x_up_ne (by omega), h3, x_up_ne (by omega), h2]; exact x_up_at _ _ _ _
    · rw [h8, x_up_ne (by omega), h6, x_up_ne (by omega), h5, x_up_ne (by omega), h4, x_up_ne (by omega), h3]; exact x_up_at _ _ _ _
  refine ⟨_, hdeal, ?_⟩
  rintro S3 ⟨b1, b2, b3, b4, b5, b6, b7, b8⟩
  refine ⟨_, c_bec (a := 12) (b := 17) (by decide) (by decide) (by omega) (Or.inr b1), ?_⟩
  rintro S4 rfl
  have s35 : S3 17 5 = nI (t_game tp n).2.2 := by rw [b8 17 5 (by omega) (by omega) (by omega), hS2, x_up_ne (by omega)]; exact hR.1
  have e5 : x_bec S3 12 17 12 5 = nI (t_game tp n).2.2 := by rw [x_bec_1 (by omega) (by omega)]; exact s35
  rw [e5]
  have hout : ∀ p k, ¬ (12 ≤ p ∧ p ≤ 16) → x_bec S3 12 17 p k = S3 p k := fun p k z => x_bec_0 (by omega) (by omega) (by omega) (by omega) (by omega)
  refine ⟨_, rfl, ?_, fun p k z1 z2 z3 => ?_, Or.inl ⟨hz, rfl, ?_, ?_, rfl, hm1, hm14, ⟨?_, ?_, ?_, ?_, ?_, ?_, ?_, ?_⟩, fun k hk => ?_, fun c w hc hw => ?_⟩⟩
  · rw [hout 10 1 (by omega), b8 10 1 (by omega) (by omega) (by omega), hS2]; exact x_up_at _ _ _ _
  · rw [hout p k (by omega), b8 p k (by omega) (by omega) (by omega), hS2, x_up_ne (by omega)]
    exact hF p k (by omega) (by omega)
  · rw [hout 8 8 (by omega), b8 8 8 (by omega) (by omega) (by omega), hS2, x_up_ne (by omega)]
    exact hF 8 8 (by omega) (by omega)
  · rw [x_bec_1 (by omega) (by omega)]; exact b1
  · rw [x_bec_1 (by omega) (by omega)]; exact b2
  · rw [x_bec_1 (by omega) (by omega)]; exact b3
  · rw [x_bec_1 (by omega) (by omega)]; exact b4
  · rw [x_bec_1 (by omega) (by omega)]; exact b5
  · rw [x_bec_4 (by omega), b8 20 0 (by omega) (by omega) (by omega), hS2, x_up_ne (by omega)]; exact hR.2.2.1
  · rw [x_bec_4 (by omega), b8 20 1 (by omega) (by omega) (by omega), hS2, x_up_ne (by omega)]; exact hR.2.2.2
  · rw [x_bec_5 (by omega)]; exact b6
  · rw [x_bec_5 (by omega)]; exact b7
  · rw [show (13 : Nat) = 12 + 1 from rfl, x_bec_2 hk, b8 18 k (by omega) (by omega) (by omega), hS2, x_up_ne (by omega)]
    exact htab k hk
  · rw [show (14 : Nat) = 12 + 2 from rfl, x_bec_3 (by omega), b8 19 _ (by omega) (by omega) (by omega), hS2, x_up_ne (by omega)]
    exact hR.2.1 c hc w hw
end GAMEC
