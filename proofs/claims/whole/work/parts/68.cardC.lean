/-! the class: a card laid in all ways, a card read -/
section CARDC
variable {xs : List Int32} {d : Nat} {S : x_M}
theorem x_mv_at {f : Nat → Nat} {P : Int32} {k : Nat} : x_mv f P (k + 1) = x_mv f P k ||| (((P >>> (nI k &&& 31)) &&& 1) <<< (nI (f k) &&& 31)) := rfl
theorem c_mirrored {P : Int32} : x_Cr xs (d + 1) 3 [.int P] S (x_mv x_mn P 9) := by
  refine x_Ci_of (by rw [ml_3]; rfl) (T_3_0 ?_)
  have loop : ∀ i y, y + i = 3 → ∀ a3 a4 a5 : Value, x_E xs (d + 1) 3 4 [.int P, .int (x_mv x_mn P (3 * y)), .int (nI y), a3, a4, a5] [] S (fun r S' => ∃ v : Int32, r = some (.int v) ∧ v = x_mv x_mn P 9 ∧ S' = S) := by
    intro i
    induction i with
    | zero =>
      intro y hy a3 a4 a5
      refine T_3_4 ?_
      rw [if_pos (show (3 : Int32) ≤ nI y from nI_le (a := 3) (by omega) (by omega)), show y = 3 by omega]
      exact ⟨_, rfl, rfl, rfl⟩
    | succ i ih =>
      intro y hy a3 a4 a5
      refine T_3_4 ?_
      rw [if_neg (show ¬ (3 : Int32) ≤ nI y from nI_ge (b := 3) (by omega) (by decide))]
      have inner : ∀ j x, x + j = 3 → ∀ a4 a5 : Value, x_E xs (d + 1) 3 11 [.int P, .int (x_mv x_mn P (3 * y + x)), .int (nI y), .int (nI x), a4, a5] [] S (fun r S' => ∃ v : Int32, r = some (.int v) ∧ v = x_mv x_mn P 9 ∧ S' = S) := by
        intro j
        induction j with
        | zero =>
          intro x hx a4 a5
          refine T_3_11 ?_
          rw [if_pos (show (3 : Int32) ≤ nI x from nI_le (a := 3) (by omega) (by omega)), ← nI_succ, show 3 * y + x = 3 * (y + 1) by omega]
          exact ih (y + 1) (by omega) _ _ _
        | succ j ihj =>
          intro x hx a4 a5
          refine T_3_11 ?_
          rw [if_neg (show ¬ (3 : Int32) ≤ nI x from nI_ge (b := 3) (by omega) (by decide)), show (3 : Int32) * nI y = nI (3 * y) from nI_mul 3 y, nI_add, show (2 : Int32) - nI x = nI (2 - x) from nI_sub (a := 2) (by omega), nI_add, ← nI_succ]
          intro x1 hx1
          have e : x_mv x_mn P (3 * y + (x + 1)) = x1 := by
            rw [hx1, show 3 * y + (x + 1) = (3 * y + x) + 1 by omega, x_mv_at, show x_mn (3 * y + x) = 2 - x + 3 * y by unfold x_mn; rw [show (3 * y + x) % 3 = x by omega, show (3 * y + x) / 3 = y by omega], show x + 3 * y = 3 * y + x by omega]
          rw [← e]
          exact ihj (x + 1) (by omega) _ _
      exact inner 3 0 rfl _ _
  exact loop 3 0 rfl _ _ _
theorem c_turned {P : Int32} : x_Cr xs (d + 1) 4 [.int P] S (x_mv x_tn P 9) := by
  refine x_Ci_of (by rw [ml_4]; rfl) (T_4_0 ?_)
  have loop : ∀ i y, y + i = 3 → ∀ a3 a4 a5 : Value, x_E xs (d + 1) 4 4 [.int P, .int (x_mv x_tn P (3 * y)), .int (nI y), a3, a4, a5] [] S (fun r S' => ∃ v : Int32, r = some (.int v) ∧ v = x_mv x_tn P 9 ∧ S' = S) := by
    intro i
    induction i with
    | zero =>
      intro y hy a3 a4 a5
      refine T_4_4 ?_
      rw [if_pos (show (3 : Int32) ≤ nI y from nI_le (a := 3) (by omega) (by omega)), show y = 3 by omega]
      exact ⟨_, rfl, rfl, rfl⟩
    | succ i ih =>
      intro y hy a3 a4 a5
      refine T_4_4 ?_
      rw [if_neg (show ¬ (3 : Int32) ≤ nI y from nI_ge (b := 3) (by omega) (by decide))]
      have inner : ∀ j x, x + j = 3 → ∀ a4 a5 : Value, x_E xs (d + 1) 4 11 [.int P, .int (x_mv x_tn P (3 * y + x)), .int (nI y), .int (nI x), a4, a5] [] S (fun r S' => ∃ v : Int32, r = some (.int v) ∧ v = x_mv x_tn P 9 ∧ S' = S) := by
        intro j
        induction j with
        | zero =>
          intro x hx a4 a5
          refine T_4_11 ?_
          rw [if_pos (show (3 : Int32) ≤ nI x from nI_le (a := 3) (by omega) (by omega)), ← nI_succ, show 3 * y + x = 3 * (y + 1) by omega]
          exact ih (y + 1) (by omega) _ _ _
        | succ j ihj =>
          intro x hx a4 a5
          refine T_4_11 ?_
          rw [if_neg (show ¬ (3 : Int32) ≤ nI x from nI_ge (b := 3) (by omega) (by decide)), show (3 : Int32) * nI y = nI (3 * y) from nI_mul 3 y, show (3 : Int32) * nI x = nI (3 * x) from nI_mul 3 x, nI_add, show (2 : Int32) - nI y = nI (2 - y) from nI_sub (a := 2) (by omega), nI_add, ← nI_succ]
          intro x1 hx1
          have e : x_mv x_tn P (3 * y + (x + 1)) = x1 := by
            rw [hx1, show 3 * y + (x + 1) = (3 * y + x) + 1 by omega, x_mv_at, show x_tn (3 * y + x) = 2 - y + 3 * x by unfold x_tn; rw [show (3 * y + x) % 3 = x by omega, show (3 * y + x) / 3 = y by omega], show x + 3 * y = 3 * y + x by omega]
          rw [← e]
          exact ihj (x + 1) (by omega) _ _
      exact inner 3 0 rfl _ _
  exact loop 3 0 rfl _ _ _
theorem x_lieF_s {P : Int32} {w : Nat} (h : w ≠ 3) (hw : w < 7) : x_mv x_tn (x_lieF P w) 9 = x_lieF P (w + 1) := by
  rcases (by omega : w = 0 ∨ w = 1 ∨ w = 2 ∨ w = 4 ∨ w = 5 ∨ w = 6) with rfl | rfl | rfl | rfl | rfl | rfl <;> rfl
theorem c_addCard {m h l : Nat} {P : Int32} (hm : m < 14) (hh : h < 2) (h5 : S 17 5 = nI m) (hl : S 20 h = nI l) : x_Cv xs (d + 2) 2 [.ref 17, .int P, .int (nI h)] S (fun S' => S' 17 5 = nI (m + 1) ∧ (∀ w, w < 8 → S' 19 (8 * m + w) = x_lieF P w) ∧ S' 20 h = nI (l ||| 2 ^ m) ∧ ∀ p k, ¬ (p = 17 ∧ k = 5) → ¬ (p = 19 ∧ 8 * m ≤ k ∧ k < 8 * m + 8) → ¬ (p = 20 ∧ k = h) → S' p k = S p k) := by
  refine x_Cv_of (by rw [ml_2]; rfl) (T_2_0 (by decide) ?_)
  rw [h5, if_neg (show ¬ (14 : Int32) ≤ nI m from nI_ge (b := 14) hm (by decide)), if_neg (nI_pos (by omega)), if_pos (show nI h ≤ 1 from nI_le (b := 1) (by omega) (by decide))]
  have loop : ∀ i w (lie : Int32) (U : x_M), w + i = 8 → (w < 8 → w ≠ 4 → lie = x_lieF P w) → (∀ v, v < w → U 19 (8 * m + v) = x_lieF P v) → (∀ p k, ¬ (p = 19 ∧ 8 * m ≤ k ∧ k < 8 * m + 8) → U p k = S p k) → x_E xs (d + 2) 2 24 [.ref 17, .int P, .int (nI h), .int lie, .int (nI w)] [] U (fun r S' => r = none ∧ S' 17 5 = nI (m + 1) ∧ (∀ w, w < 8 → S' 19 (8 * m + w) = x_lieF P w) ∧ S' 20 h = nI (l ||| 2 ^ m) ∧ ∀ p k, ¬ (p = 17 ∧ k = 5) → ¬ (p = 19 ∧ 8 * m ≤ k ∧ k < 8 * m + 8) → ¬ (p = 20 ∧ k = h) → S' p k = S p k) := by
    intro i
    induction i with
    | zero =>
      intro w lie U hw hlie hall hF
      refine T_2_24 (by decide) ?_
      rw [if_pos (show (8 : Int32) ≤ nI w from nI_le (a := 8) (by omega) (by omega)), show x_rr 17 2 = 20 from rfl, nI_clamp (by omega), hF 20 h (by omega), hl, hF 17 5 (by omega), h5, x_one_shl (by omega), nI_or]
      refine ⟨x_ib_n hh (by decide), x_ib_n hh (by decide), ?_⟩
      intro S1 hS1
      rw [show S1 17 5 = nI m by rw [hS1, x_up_ne (by omega), hF 17 5 (by omega)]; exact h5, ← nI_succ]
      intro S2 hS2
      refine ⟨rfl, by rw [hS2]; exact x_up_at _ _ _ _, fun v hv => ?_, ?_, fun p k z1 z2 z3 => ?_⟩
      · rw [hS2, x_up_ne (by omega), hS1, x_up_ne (by omega)]
        exact hall v (by omega)
      · rw [hS2, x_up_ne (by omega), hS1]
        exact x_up_at _ _ _ _
      · rw [hS2, x_up_ne (by omega), hS1, x_up_ne (by omega)]
        exact hF p k z2
    | succ i ih =>
      intro w lie U hw hlie hall hF
      refine T_2_24 (by decide) ?_
      rw [if_neg (show ¬ (8 : Int32) ≤ nI w from nI_ge (b := 8) (by omega) (by decide))]
      have go : x_E xs (d + 1 + 1) 2 42 [.ref 17, .int P, .int (nI h), .int (x_lieF P w), .int (nI w)] [] U (fun r S' => r = none ∧ S' 17 5 = nI (m + 1) ∧ (∀ w, w < 8 → S' 19 (8 * m + w) = x_lieF P w) ∧ S' 20 h = nI (l ||| 2 ^ m) ∧ ∀ p k, ¬ (p = 17 ∧ k = 5) → ¬ (p = 19 ∧ 8 * m ≤ k ∧ k < 8 * m + 8) → ¬ (p = 20 ∧ k = h) → S' p k = S p k) := by
        refine T_2_42 (by decide) ?_
        rw [hF 17 5 (by omega), h5, x_8cw, show x_rr 17 1 = 19 from rfl, nI_clamp (by omega)]
        refine ⟨x_ib_n (by omega) (by decide), ?_⟩
        intro S1 hS1
        refine x_rd c_turned ?_
        rw [← nI_succ]
        refine ih (w + 1) _ S1 (by omega) (fun h1 h2 => x_lieF_s (by omega) (by omega)) (fun v hv => ?_) (fun p k z => by rw [hS1, x_up_ne (by omega)]; exact hF p k z)
        rw [hS1]
        by_cases hvw : v = w
        · rw [hvw]; exact x_up_at _ _ _ _
        · rw [x_up_ne (by omega)]
          exact hall v (by omega)
      by_cases h4 : w = 4
      · rw [if_pos (show nI w = 4 by rw [h4]; rfl)]
        refine x_rd c_mirrored ?_
        rw [h4] at go ⊢
        exact go
      · rw [if_neg (show ¬ nI w = 4 from fun z => h4 ((nI_eq (b := 4) (by omega) (by omega)).mp z)), hlie (by omega) h4]
        exact go
  exact loop 8 0 P S rfl (fun _ _ => rfl) (fun v hv => by omega) (fun _ _ _ => rfl)
end CARDC
/-- what is read of a game so far: m cards -/
def t_RC (S : x_M) (tp : Nat → Nat) (n q0 m : Nat) : Prop := S 17 5 = nI m ∧ (∀ c, c < m → ∀ w, w < 8 → S 19 (8 * c + w) = x_lieF (nI (t_hc tp n (t_qc tp n q0 c))) w) ∧ S 20 0 = nI (t_lf (fun c => t_dc tp n (t_qc tp n q0 c)) 0 m) ∧ S 20 1 = nI (t_lf (fun c => t_dc tp n (t_qc tp n q0 c)) 1 m)
theorem t_RC_c {S S' : x_M} {tp : Nat → Nat} {n q0 m : Nat} (h : ∀ p k, (p = 17 ∧ k = 5) ∨ p = 19 ∨ p = 20 → S' p k = S p k) (H : t_RC S tp n q0 m) : t_RC S' tp n q0 m := ⟨by rw [h 17 5 (by omega)]; exact H.1, fun c hc w hw => by rw [h 19 _ (by omega)]; exact H.2.1 c hc w hw, by rw [h 20 0 (by omega)]; exact H.2.2.1, by rw [h 20 1 (by omega)]; exact H.2.2.2⟩
section READC
variable {xs : List Int32} {d : Nat} {S : x_M} {tp : Nat → Nat} {n q q0 : Nat}
theorem t_nf_b {mx : Nat} : t_nf tp n q mx ≤ 2 := by
  unfold t_nf
  split
  · split <;> omega
  · omega
theorem t_nf_0 {mx : Nat} (h : t_nf tp n q mx = 0) : t_k tp n q = 2 ∧ t_vl tp n q ≤ mx := by
  unfold t_nf at h
  by_cases h2 : t_k tp n q = 2
  · rw [if_pos h2] at h
    refine ⟨h2, ?_⟩
    unfold t_vl
    by_cases h3 : t_va tp q (t_e tp n q - q) ≤ mx
    · exact h3
    · rw [if_neg h3] at h; omega
  · rw [if_neg h2] at h; omega
theorem t_sig_le (h : q ≤ n) : (t_sig tp n q).2 ≤ n := by
  unfold t_sig
  split
  · exact (t_nx_le h).2
  · exact h
theorem t_card_14 : ¬ (t_card tp n 14 q).1 = 0 := by
  unfold t_card
  split
  · rw [if_pos rfl]
    exact Nat.succ_ne_zero 2
  · exact Nat.succ_ne_zero 0
set_option maxHeartbeats 1000000 in
theorem c_readCard {m : Nat} (hm : m ≤ 14) (hC : t_C S tp n) (hB : t_B tp n) (hq : q ≤ n) (hT : t_TC S tp n q) (hR : t_RC S tp n q0 m) (hqm : q = t_qc tp n q0 m) : x_Ci xs (d + 6) 56 [.ref 10, .ref 17] S (fun r S' => r = nI (t_card tp n m q).1 ∧ t_TC S' tp n (t_card tp n m q).2 ∧ (t_card tp n m q).2 ≤ n ∧ ((t_card tp n m q).1 = 0 → t_RC S' tp n q0 (m + 1)) ∧ ∀ p k, ¬ (p = 10 ∧ 2 ≤ k) → ¬ (17 ≤ p ∧ p ≤ 20 ∧ p ≠ 18) → S' p k = S p k) := by
  have hn := hB.1
  refine x_Ci_of (by rw [ml_56]; rfl) (T_56_0 (by decide) (x_rd (c_isWordC (Or.inr rfl) hC hB hq hT) ?_))
  have h10 : ∀ {P : Prop}, (1 : Nat) = 0 → P := fun h => absurd h (by decide)
  by_cases hw : t_wd tp n q (t_w 4) = true
  case neg =>
    rw [if_pos (x_b_0.mpr hw)]
    have e : t_card tp n m q = (1, q) := by unfold t_card; rw [if_neg hw]
    rw [e]
    exact ⟨_, rfl, rfl, hT, hq, fun z => h10 z, fun _ _ _ _ => rfl⟩
  case pos =>
  rw [if_neg (x_b_ne hw), hR.1]
  by_cases hm14 : m = 14
  · rw [if_neg (show ¬ nI m < 14 from nI_nlt (b := 14) (by omega) (by omega))]
    have e : t_card tp n m q = (3, q) := by unfold t_card; rw [if_pos hw, if_pos hm14]
    rw [e]
    exact ⟨_, rfl, rfl, hT, hq, fun z => absurd (show (3 : Nat) = 0 from z) (by decide), fun _ _ _ _ => rfl⟩
  rw [if_pos (show nI m < 14 from nI_lt (b := 14) (by omega) (by omega))]
  refine ⟨_, c_next hC hB hq hT, ?_⟩
  rintro S2 ⟨hT2, hF2⟩
  have hC2 := t_C_FA hF2 hC
  have hq1 := (t_nx_le (tp := tp) hq).2
  refine x_rd (c_windows hC2 hB hq1 hT2) ?_
  by_cases hho : t_ho tp n (t_nx tp n q) = true
  case neg =>
    have e : t_card tp n m q = (1, t_nx tp n q) := by unfold t_card; rw [if_pos hw, if_neg hm14, if_neg hho]
    rw [if_neg hho, if_pos rfl, e]
    exact ⟨_, rfl, rfl, hT2, hq1, fun z => h10 z, fun p k z1 z2 => hF2 p k z1⟩
  case pos =>
  have hhs := t_hs_lt (tp := tp) (q := t_nx tp n q) 9
  rw [if_pos hho, if_neg (nI_neg1 (by omega))]
  refine ⟨_, c_next hC2 hB hq1 hT2, ?_⟩
  rintro S4 ⟨hT4, hF4⟩
  have hC4 := t_C_FA hF4 hC2
  have hq2 := (t_nx_le (tp := tp) hq1).2
  refine x_rd (c_numFault (mx := 1) hT4 (by omega)) ?_
  have hnb := t_nf_b (tp := tp) (n := n) (q := t_nx tp n (t_nx tp n q)) (mx := 1)
  by_cases hz : t_nf tp n (t_nx tp n (t_nx tp n q)) 1 = 0
  case neg =>
    have e : t_card tp n m q = (t_nf tp n (t_nx tp n (t_nx tp n q)) 1, t_nx tp n (t_nx tp n q)) := by unfold t_card; rw [if_pos hw, if_neg hm14, if_pos hho, if_neg hz]
    rw [if_neg (nI_ne0 (by omega) (by omega)), e]
    exact ⟨_, rfl, rfl, hT4, hq2, fun z => absurd z hz, fun p k z1 z2 => by rw [hF4 p k z1, hF2 p k z1]⟩
  case pos =>
  have e : t_card tp n m q = t_sig tp n (t_nx tp n (t_nx tp n (t_nx tp n q))) := by unfold t_card; rw [if_pos hw, if_neg hm14, if_pos hho, if_pos hz]
  obtain ⟨hk2, hv1⟩ := t_nf_0 hz
  rw [if_pos (show nI (t_nf tp n (t_nx tp n (t_nx tp n q)) 1) = 0 by rw [hz]; rfl), hT4.2.2.2 hk2, e]
  have hdc : t_dc tp n q < 2 := by unfold t_dc; omega
  have hR4 : t_RC S4 tp n q0 m := t_RC_c (fun p k hp => by rw [hF4 p k (by omega), hF2 p k (by omega)]) hR
  have hlh : S4 20 (t_dc tp n q) = nI (t_lf (fun c => t_dc tp n (t_qc tp n q0 c)) (t_dc tp n q) m) := by
    rcases (by omega : t_dc tp n q = 0 ∨ t_dc tp n q = 1) with h | h
    · rw [h]; exact hR4.2.2.1
    · rw [h]; exact hR4.2.2.2
  refine ⟨_, c_addCard (h := t_dc tp n q) (by omega) hdc hR4.1 hlh, ?_⟩
  rintro S6 ⟨g1, g2, g3, g4⟩
  have hC6 : t_C S6 tp n := t_C_c (fun p k hp => g4 p k (by omega) (by omega) (by omega)) hC4
  have hT6 : t_TC S6 tp n (t_nx tp n (t_nx tp n q)) := by
    obtain ⟨t3, t4, t2, t5⟩ := hT4
    exact ⟨by rw [g4 10 3 (by omega) (by omega) (by omega)]; exact t3, by rw [g4 10 4 (by omega) (by omega) (by omega)]; exact t4, by rw [g4 10 2 (by omega) (by omega) (by omega)]; exact t2, fun z => by rw [g4 10 5 (by omega) (by omega) (by omega)]; exact t5 z⟩
  have hR6 : t_RC S6 tp n q0 (m + 1) := by
    refine ⟨g1, fun c hc w hw => ?_, ?_, ?_⟩
    · by_cases hcm : c = m
      · rw [hcm, ← hqm]
        exact g2 w hw
      · rw [g4 19 _ (by omega) (by omega) (by omega)]
        exact hR4.2.1 c (by omega) w hw
    · show S6 20 0 = nI (t_lf (fun c => t_dc tp n (t_qc tp n q0 c)) 0 m ||| (if t_dc tp n (t_qc tp n q0 m) = 0 then 2 ^ m else 0))
      rw [← hqm]
      by_cases h : t_dc tp n q = 0
      · rw [if_pos h]
        rw [h] at g3
        exact g3
      · rw [if_neg h, g4 20 0 (by omega) (by omega) (by omega), Nat.or_zero]
        exact hR4.2.2.1
    · show S6 20 1 = nI (t_lf (fun c => t_dc tp n (t_qc tp n q0 c)) 1 m ||| (if t_dc tp n (t_qc tp n q0 m) = 1 then 2 ^ m else 0))
      rw [← hqm]
      by_cases h : t_dc tp n q = 1
      · rw [if_pos h]
        rw [h] at g3
        exact g3
      · rw [if_neg h, g4 20 1 (by omega) (by omega) (by omega), Nat.or_zero]
        exact hR4.2.2.2
  refine ⟨_, c_next hC6 hB hq2 hT6, ?_⟩
  rintro S7 ⟨hT7, hF7⟩
  have hq3 := (t_nx_le (tp := tp) hq2).2
  refine ⟨_, c_readSign (t_C_FA hF7 hC6) hB hq3 hT7, ?_⟩
  rintro v S8 ⟨r1, r2, r3⟩
  refine ⟨_, rfl, r1, r2, t_sig_le hq3, fun _ => t_RC_c (fun p k hp => by rw [r3 p k (by omega), hF7 p k (by omega)]) hR6, fun p k z1 z2 => ?_⟩
  rw [r3 p k z1, hF7 p k z1, g4 p k (by omega) (by omega) (by omega), hF4 p k z1, hF2 p k z1]
end READC
