/-- what the reference has read so far -/
def t_RM (S : x_M) (tp : Nat → Nat) (n q0 m : Nat) : Prop := S 56 16 = nI m ∧ ∀ c, c < m → S 64 c = nI (t_hc tp n (t_qc tp n q0 c)) ∧ S 65 c = nI (t_dc tp n (t_qc tp n q0 c))
section READM
variable {xs : List Int32} {d : Nat} {S : x_M} {tp : Nat → Nat} {n q q0 : Nat}
theorem t_rs_1 {f : Nat} {r : Int32} {S S' : x_M} (h : t_rs f r S S') (hf : f = 0) : r = 1 ∧ S' 56 3 = S 56 3 := by
  rcases h with ⟨_, h1, h2⟩ | ⟨h1, _⟩
  · exact ⟨h1, h2⟩
  · exact absurd hf h1
theorem t_rs_0 {f : Nat} {r : Int32} {S S' : x_M} (h : t_rs f r S S') (hf : ¬ f = 0) : r = 0 ∧ S' 56 3 = nI f := by
  rcases h with ⟨h1, _⟩ | ⟨_, h1, h2⟩
  · exact absurd h1 hf
  · exact ⟨h1, h2⟩
theorem t_rs_b {f : Nat} {r : Int32} {S S' : x_M} (h : t_rs f r S S') : r = 0 ∨ r = 1 := by
  rcases h with ⟨_, h1, _⟩ | ⟨_, h1, _⟩
  · exact Or.inr h1
  · exact Or.inl h1
theorem c_readsTable (hM : t_M S tp n) (hB : t_B tp n) (hq : q ≤ n) (hT : t_TM S tp n q) : x_Ci xs (d + 4) 113 [.ref 56] S (fun r S' => t_rs (t_tab tp n q).1 r S S' ∧ t_TM S' tp n (t_tab tp n q).2 ∧ (t_tab tp n q).2 ≤ n ∧ ((t_tab tp n q).1 = 0 → ∀ k, k < 9 → S' 63 k = nI (t_vl tp n (t_it tp n (t_nx tp n q) k))) ∧ ∀ p k, ¬ (p = 56 ∧ (k = 3 ∨ (10 ≤ k ∧ k ≤ 12))) → p ≠ 63 → S' p k = S p k) := by
  have hn := hB.1
  refine x_Ci_of (by rw [ml_113]; rfl) (T_113_0 (x_rd (c_isWordM (a := 3) (Or.inl rfl) hM hB hq hT) ?_))
  by_cases hw : t_wd tp n q (t_w 3) = true
  case neg =>
    rw [if_pos (x_b_0.mpr hw)]
    have e : t_tab tp n q = (1, q) := by unfold t_tab; rw [if_neg hw]
    rw [e]
    intro S3 h3
    exact ⟨_, rfl, Or.inr ⟨Nat.succ_ne_zero 0, rfl, by rw [h3]; exact x_up_at _ _ _ _⟩, t_TM_c (fun k h1 h2 => by rw [h3, x_up_ne (by omega)]) hT, hq, fun z => absurd (show (1 : Nat) = 0 from z) (by decide), fun p k z1 z2 => by rw [h3, x_up_ne (by omega)]⟩
  case pos =>
  have e : t_tab tp n q = if (t_nums tp n 9 (t_nx tp n q)).1 = 0 then t_sig tp n (t_nums tp n 9 (t_nx tp n q)).2 else t_nums tp n 9 (t_nx tp n q) := by unfold t_tab; rw [if_pos hw]
  rw [if_neg (x_b_ne hw), e]
  refine ⟨_, c_nextM hM hB hq hT, ?_⟩
  rintro S1 ⟨g1, g2⟩
  have hq1 := (t_nx_le (tp := tp) hq).2
  generalize t_nx tp n q = q0 at g1 hq1
  have loop : ∀ i k (U : x_M) (a2 : Value), k + i = 9 → (t_nums tp n i (t_it tp n q0 k)) = t_nums tp n 9 q0 → t_TM U tp n (t_it tp n q0 k) → (∀ j, j < k → U 63 j = nI (t_vl tp n (t_it tp n q0 j))) → U 56 3 = S 56 3 → (∀ p k, ¬ (p = 56 ∧ (k = 3 ∨ (10 ≤ k ∧ k ≤ 12))) → p ≠ 63 → U p k = S p k) → x_E xs (d + 4) 113 23 [.ref 56, .int (nI k), a2] [] U (fun r S' => ∃ v : Int32, r = some (.int v) ∧ t_rs (if (t_nums tp n 9 q0).1 = 0 then t_sig tp n (t_nums tp n 9 q0).2 else t_nums tp n 9 q0).1 v S S' ∧ t_TM S' tp n (if (t_nums tp n 9 q0).1 = 0 then t_sig tp n (t_nums tp n 9 q0).2 else t_nums tp n 9 q0).2 ∧ (if (t_nums tp n 9 q0).1 = 0 then t_sig tp n (t_nums tp n 9 q0).2 else t_nums tp n 9 q0).2 ≤ n ∧ ((if (t_nums tp n 9 q0).1 = 0 then t_sig tp n (t_nums tp n 9 q0).2 else t_nums tp n 9 q0).1 = 0 → ∀ k, k < 9 → S' 63 k = nI (t_vl tp n (t_it tp n q0 k))) ∧ ∀ p k, ¬ (p = 56 ∧ (k = 3 ∨ (10 ≤ k ∧ k ≤ 12))) → p ≠ 63 → S' p k = S p k) := by
    intro i
    induction i with
    | zero =>
      intro k U a2 hk hnum hTU hall h3U hF
      have hk : k = 9 := by omega
      subst hk
      have hnum : (0, t_it tp n q0 9) = t_nums tp n 9 q0 := hnum
      have hMU := t_M_c (fun p k hp => hF p k (by omega) (by omega)) hM
      have hql := t_it_le (tp := tp) hq1 9
      refine T_113_23 ?_
      rw [if_pos (show (9 : Int32) ≤ nI 9 by decide), ← hnum, if_pos rfl]
      refine ⟨_, c_readsSign hMU hB hql hTU, ?_⟩
      rintro v S2 ⟨r1, r2, r3⟩
      refine ⟨t_rs_b r1, _, rfl, ?_, r2, t_sig_le hql, fun _ k hk => ?_, fun p k z1 z2 => by rw [r3 p k z1]; exact hF p k z1 z2⟩
      · rcases r1 with ⟨a1, a2, a3⟩ | ⟨a1, a2, a3⟩
        · exact Or.inl ⟨a1, a2, a3.trans h3U⟩
        · exact Or.inr ⟨a1, a2, a3⟩
      · rw [r3 63 k (by omega)]
        exact hall k hk
    | succ i ih =>
      intro k U a2 hk hnum hTU hall h3U hF
      have hMU := t_M_c (fun p k hp => hF p k (by omega) (by omega)) hM
      have hql := t_it_le (tp := tp) hq1 k
      refine T_113_23 ?_
      rw [if_neg (show ¬ (9 : Int32) ≤ nI k from nI_ge (b := 9) (by omega) (by decide))]
      refine ⟨_, c_number (mx := 99) hMU hB hql hTU (by omega), ?_⟩
      rintro v S2 ⟨hor, hF2⟩
      have hstep : t_nums tp n (i + 1) (t_it tp n q0 k) = if t_nf tp n (t_it tp n q0 k) 99 = 0 then t_nums tp n i (t_nx tp n (t_it tp n q0 k)) else (t_nf tp n (t_it tp n q0 k) 99, t_it tp n q0 k) := rfl
      rcases hor with ⟨hz, rfl, hT2, h32⟩ | ⟨hz, rfl, hT2, h32⟩
      · rw [if_pos hz] at hstep
        have hv := (t_nf_0 hz).2
        rw [if_neg (nI_neg1 (by omega)), nI_clamp (by omega)]
        refine ⟨x_ib_n (by omega) (by decide), ?_⟩
        intro S3 h3
        rw [← nI_succ]
        refine ih (k + 1) S3 _ (by omega) (hstep.symm.trans hnum) (t_TM_c (fun k h1 h2 => by rw [h3, x_up_ne (by omega)]) hT2) (fun j hj => ?_) (by rw [h3, x_up_ne (by omega), h32]; exact h3U) (fun p k z1 z2 => by rw [h3, x_up_ne (by omega), hF2 p k z1]; exact hF p k z1 z2)
        rw [h3]
        by_cases hjk : j = k
        · rw [hjk]; exact x_up_at _ _ _ _
        · rw [x_up_ne (by omega), hF2 63 j (by omega)]
          exact hall j (by omega)
      · rw [if_neg hz] at hstep
        rw [if_pos rfl, ← hnum, hstep, if_neg hz]
        exact ⟨_, rfl, Or.inr ⟨hz, rfl, h32⟩, hT2, hql, fun z => absurd z hz, fun p k z1 z2 => by rw [hF2 p k z1]; exact hF p k z1 z2⟩
  exact loop 9 0 S1 _ rfl rfl g1 (fun j hj => by omega) (g2 56 3 (by omega)) (fun p k z1 z2 => g2 p k (by omega))
theorem c_readsHoles {m : Nat} (hm : m < 14) (hM : t_M S tp n) (hB : t_B tp n) (hq : q ≤ n) (hT : t_TM S tp n q) (h16 : S 56 16 = nI m) : x_Ci xs (d + 3) 119 [.ref 56] S (fun r S' => ((t_ho tp n q = true ∧ r = 1 ∧ S' 56 3 = S 56 3 ∧ S' 64 m = nI (t_hs tp q 9) ∧ t_TM S' tp n (t_nx tp n q)) ∨ (¬ t_ho tp n q = true ∧ r = 0 ∧ S' 56 3 = 1 ∧ t_TM S' tp n q)) ∧ ∀ p k, ¬ (p = 56 ∧ (k = 3 ∨ (10 ≤ k ∧ k ≤ 12))) → ¬ (p = 64 ∧ k = m) → S' p k = S p k) := by
  have hn := hB.1
  have he := t_e_le (tp := tp) hq
  refine x_Ci_of (by rw [ml_119]; rfl) (T_119_0 ?_)
  rw [hM.1, hT.2.1, hT.2.2, nI_sub he.1]
  -- what is told at the end
  have bad : ∀ (i : Nat) (h : Int32), ¬ t_ho tp n q = true → x_E xs (d + 2 + 1) 119 115 [.ref 56, .int h, .int 0, .int (nI i)] [] S (fun r S' => ∃ v : Int32, r = some (.int v) ∧ ((t_ho tp n q = true ∧ v = 1 ∧ S' 56 3 = S 56 3 ∧ S' 64 m = nI (t_hs tp q 9) ∧ t_TM S' tp n (t_nx tp n q)) ∨ (¬ t_ho tp n q = true ∧ v = 0 ∧ S' 56 3 = 1 ∧ t_TM S' tp n q)) ∧ ∀ p k, ¬ (p = 56 ∧ (k = 3 ∨ (10 ≤ k ∧ k ≤ 12))) → ¬ (p = 64 ∧ k = m) → S' p k = S p k) := by
    intro i h hno
    refine T_119_115 ?_
    rw [if_pos rfl]
    intro S3 h3
    exact ⟨_, rfl, Or.inr ⟨hno, rfl, by rw [h3]; exact x_up_at _ _ _ _, t_TM_c (fun k h1 h2 => by rw [h3, x_up_ne (by omega)]) hT⟩, fun p k z1 z2 => by rw [h3, x_up_ne (by omega)]⟩
  have bad0 : ∀ (i : Nat) (h : Int32), ¬ t_ho tp n q = true → x_E xs (d + 2 + 1) 119 35 [.ref 56, .int h, .int 0, .int (nI i)] [] S (fun r S' => ∃ v : Int32, r = some (.int v) ∧ ((t_ho tp n q = true ∧ v = 1 ∧ S' 56 3 = S 56 3 ∧ S' 64 m = nI (t_hs tp q 9) ∧ t_TM S' tp n (t_nx tp n q)) ∨ (¬ t_ho tp n q = true ∧ v = 0 ∧ S' 56 3 = 1 ∧ t_TM S' tp n q)) ∧ ∀ p k, ¬ (p = 56 ∧ (k = 3 ∨ (10 ≤ k ∧ k ≤ 12))) → ¬ (p = 64 ∧ k = m) → S' p k = S p k) := by
    intro i h hno
    refine T_119_35 ?_
    by_cases h9 : (9 : Int32) ≤ nI i
    · rw [if_pos h9]
      exact bad i h hno
    · rw [if_neg h9, if_pos rfl]
      exact bad i h hno
  have eqn : t_e tp n q - q = 9 → q < n := by
    intro h9
    by_cases h : q < n
    · exact h
    · have : t_e tp n q = q := by unfold t_e; rw [if_neg h]
      omega
  by_cases hl : t_e tp n q - q = 9
  case neg =>
    have hno : ¬ t_ho tp n q = true := fun z => by unfold t_ho at z; rw [decide_eq_true_eq] at z; exact hl z.1
    by_cases hqn : q < n
    · rw [if_neg (nI_ge hqn (by omega)), if_neg (show ¬ nI (t_e tp n q - q) = 9 from fun z => hl ((nI_eq (b := 9) (by omega) (by omega)).mp z))]
      exact bad0 0 0 hno
    · rw [if_pos (nI_le (by omega) (by omega))]
      exact bad0 0 0 hno
  case pos =>
  have hqn := eqn hl
  rw [if_neg (nI_ge hqn (by omega)), if_pos (show nI (t_e tp n q - q) = 9 by rw [hl]; rfl)]
  have loop : ∀ i k, k + i = 9 → (∀ j, j < k → tp (q + j) = 111 ∨ tp (q + j) = 120) → x_E xs (d + 2 + 1) 119 35 [.ref 56, .int (nI (t_hs tp q k)), .int 1, .int (nI k)] [] S (fun r S' => ∃ v : Int32, r = some (.int v) ∧ ((t_ho tp n q = true ∧ v = 1 ∧ S' 56 3 = S 56 3 ∧ S' 64 m = nI (t_hs tp q 9) ∧ t_TM S' tp n (t_nx tp n q)) ∨ (¬ t_ho tp n q = true ∧ v = 0 ∧ S' 56 3 = 1 ∧ t_TM S' tp n q)) ∧ ∀ p k, ¬ (p = 56 ∧ (k = 3 ∨ (10 ≤ k ∧ k ≤ 12))) → ¬ (p = 64 ∧ k = m) → S' p k = S p k) := by
    intro i
    induction i with
    | zero =>
      intro k hk hall
      have hk : k = 9 := by omega
      subst hk
      have hyes : t_ho tp n q = true := by unfold t_ho; rw [decide_eq_true_eq]; exact ⟨hl, fun j hj => hall j hj⟩
      refine T_119_35 ?_
      rw [if_pos (show (9 : Int32) ≤ nI 9 by decide)]
      refine T_119_115 ?_
      rw [if_neg (by decide), h16, nI_clamp (by omega)]
      refine ⟨x_ib_n hm (by decide), ?_⟩
      intro S1 h1
      have hT1 : t_TM S1 tp n q := t_TM_c (fun k h2 h3 => by rw [h1, x_up_ne (by omega)]) hT
      have hM1 : t_M S1 tp n := t_M_c (fun p k hp => by rw [h1, x_up_ne (by omega)]) hM
      refine ⟨_, c_nextM hM1 hB hq hT1, ?_⟩
      rintro S2 ⟨g1, g2⟩
      refine ⟨_, rfl, Or.inl ⟨hyes, rfl, by rw [g2 56 3 (by omega), h1, x_up_ne (by omega)], by rw [g2 64 m (by omega), h1]; exact x_up_at _ _ _ _, g1⟩, fun p k z1 z2 => by rw [g2 p k (by omega), h1, x_up_ne (by omega)]⟩
    | succ i ih =>
      intro k hk hall
      have hb := hB.2 (q + k) (by omega)
      have k1 : nI (tp (q + k)) = 111 ↔ tp (q + k) = 111 := nI_eq (b := 111) (by omega) (by omega)
      have k2 : nI (tp (q + k)) = 120 ↔ tp (q + k) = 120 := nI_eq (b := 120) (by omega) (by omega)
      have hs : t_hs tp q (k + 1) = t_hs tp q k ||| (if tp (q + k) = 111 then 2 ^ k else 0) := rfl
      have ib : x_ib (nI (q + k)) 400 := x_ib_n (by omega) (by decide)
      refine T_119_35 ?_
      rw [if_neg (show ¬ (9 : Int32) ≤ nI k from nI_ge (b := 9) (by omega) (by decide)), if_neg (by decide), hT.2.1, nI_add, nI_clamp (by omega), hM.2 (q + k) (by omega)]
      refine ⟨ib, ?_⟩
      by_cases h1 : tp (q + k) = 111
      · rw [if_pos (k1.mpr h1)]
        refine T_119_82 ?_
        rw [hT.2.1, nI_add, nI_clamp (by omega), hM.2 (q + k) (by omega), if_pos (k1.mpr h1)]
        have hi := ih (k + 1) (by omega) (fun j hj => by
          by_cases hjk : j = k
          · rw [hjk]; exact Or.inl h1
          · exact hall j (by omega))
        rw [hs, if_pos h1, nI_succ, ← nI_or, ← x_one_shl (by omega)] at hi
        exact ⟨ib, hi⟩
      · rw [if_neg (fun z => h1 (k1.mp z))]
        refine ⟨ib, ?_⟩
        by_cases h2 : tp (q + k) = 120
        · rw [if_pos (k2.mpr h2)]
          refine T_119_82 ?_
          rw [hT.2.1, nI_add, nI_clamp (by omega), hM.2 (q + k) (by omega), if_neg (fun z => h1 (k1.mp z))]
          have hi := ih (k + 1) (by omega) (fun j hj => by
            by_cases hjk : j = k
            · rw [hjk]; exact Or.inr h2
            · exact hall j (by omega))
          rw [hs, if_neg h1, nI_succ, Nat.or_zero] at hi
          rw [show nI (t_hs tp q k) ||| 0 = nI (t_hs tp q k) from (nI_or _ 0).trans (by rw [Nat.or_zero])]
          exact ⟨ib, hi⟩
        · rw [if_neg (fun z => h2 (k2.mp z))]
          refine T_119_82 ?_
          rw [hT.2.1, nI_add, nI_clamp (by omega), hM.2 (q + k) (by omega), if_neg (fun z => h1 (k1.mp z)), ← nI_succ]
          refine ⟨ib, bad0 (k + 1) _ (fun z => ?_)⟩
          unfold t_ho at z
          rw [decide_eq_true_eq] at z
          rcases z.2 k (by omega) with h3 | h3
          · exact h1 h3
          · exact h2 h3
  exact loop 9 0 rfl (fun j hj => by omega)
set_option maxHeartbeats 1000000 in
theorem c_readsCard {m : Nat} (hm : m ≤ 14) (hM : t_M S tp n) (hB : t_B tp n) (hq : q ≤ n) (hT : t_TM S tp n q) (hR : t_RM S tp n q0 m) (hqm : q = t_qc tp n q0 m) : x_Ci xs (d + 4) 118 [.ref 56] S (fun r S' => t_rs (t_card tp n m q).1 r S S' ∧ t_TM S' tp n (t_card tp n m q).2 ∧ (t_card tp n m q).2 ≤ n ∧ ((t_card tp n m q).1 = 0 → t_RM S' tp n q0 (m + 1)) ∧ ∀ p k, ¬ (p = 56 ∧ (k = 3 ∨ (10 ≤ k ∧ k ≤ 12) ∨ k = 16)) → p ≠ 64 → p ≠ 65 → S' p k = S p k) := by
  have hn := hB.1
  have h10 : ∀ {P : Prop}, (1 : Nat) = 0 → P := fun h => absurd h (by decide)
  refine x_Ci_of (by rw [ml_118]; rfl) (T_118_0 (x_rd (c_isWordM (a := 4) (Or.inr rfl) hM hB hq hT) ?_))
  by_cases hw : t_wd tp n q (t_w 4) = true
  case neg =>
    rw [if_pos (x_b_0.mpr hw)]
    have e : t_card tp n m q = (1, q) := by unfold t_card; rw [if_neg hw]
    rw [e]
    intro S3 h3
    exact ⟨_, rfl, Or.inr ⟨Nat.succ_ne_zero 0, rfl, by rw [h3]; exact x_up_at _ _ _ _⟩, t_TM_c (fun k h1 h2 => by rw [h3, x_up_ne (by omega)]) hT, hq, fun z => h10 z, fun p k z1 z2 z3 => by rw [h3, x_up_ne (by omega)]⟩
  case pos =>
  rw [if_neg (x_b_ne hw), hR.1]
  by_cases hm14 : m = 14
  · rw [if_pos (show nI m = 14 by rw [hm14]; rfl)]
    have e : t_card tp n m q = (3, q) := by unfold t_card; rw [if_pos hw, if_pos hm14]
    rw [e]
    intro S3 h3
    exact ⟨_, rfl, Or.inr ⟨Nat.succ_ne_zero 2, rfl, by rw [h3]; exact x_up_at _ _ _ _⟩, t_TM_c (fun k h1 h2 => by rw [h3, x_up_ne (by omega)]) hT, hq, fun z => absurd (show (3 : Nat) = 0 from z) (by decide), fun p k z1 z2 z3 => by rw [h3, x_up_ne (by omega)]⟩
  rw [if_neg (show ¬ nI m = 14 from fun z => hm14 ((nI_eq (b := 14) (by omega) (by omega)).mp z))]
  refine ⟨_, c_nextM hM hB hq hT, ?_⟩
  rintro S2 ⟨hT2, hF2⟩
  have hM2 := t_M_FT hF2 hM
  have hq1 := (t_nx_le (tp := tp) hq).2
  have h162 : S2 56 16 = nI m := by rw [hF2 56 16 (by omega)]; exact hR.1
  refine ⟨_, c_readsHoles (by omega) hM2 hB hq1 hT2 h162, ?_⟩
  rintro v3 S3 ⟨hor, hF3⟩
  rcases hor with ⟨hho, rfl, h33, h643, hT3⟩ | ⟨hho, rfl, h33, hT3⟩
  case inr =>
    have e : t_card tp n m q = (1, t_nx tp n q) := by unfold t_card; rw [if_pos hw, if_neg hm14, if_neg hho]
    rw [if_pos rfl, e]
    exact ⟨_, rfl, Or.inr ⟨Nat.succ_ne_zero 0, rfl, h33⟩, hT3, hq1, fun z => h10 z, fun p k z1 z2 z3 => by rw [hF3 p k (by omega) (by omega), hF2 p k (by omega)]⟩
  case inl =>
  rw [if_neg (by decide)]
  have hM3 : t_M S3 tp n := t_M_c (fun p k hp => hF3 p k (by omega) (by omega)) hM2
  have hq2 := (t_nx_le (tp := tp) hq1).2
  refine ⟨_, c_number (mx := 1) hM3 hB hq2 hT3 (by omega), ?_⟩
  rintro v4 S4 ⟨hor4, hF4⟩
  rcases hor4 with ⟨hz, rfl, hT4, h34⟩ | ⟨hz, rfl, hT4, h34⟩
  case inr =>
    have e : t_card tp n m q = (t_nf tp n (t_nx tp n (t_nx tp n q)) 1, t_nx tp n (t_nx tp n q)) := by unfold t_card; rw [if_pos hw, if_neg hm14, if_pos hho, if_neg hz]
    rw [if_pos rfl, e]
    exact ⟨_, rfl, Or.inr ⟨hz, rfl, h34⟩, hT4, hq2, fun z => absurd z hz, fun p k z1 z2 z3 => by rw [hF4 p k (by omega), hF3 p k (by omega) (by omega), hF2 p k (by omega)]⟩
  case inl =>
  have e : t_card tp n m q = t_sig tp n (t_nx tp n (t_nx tp n (t_nx tp n q))) := by unfold t_card; rw [if_pos hw, if_neg hm14, if_pos hho, if_pos hz]
  have hv1 := (t_nf_0 hz).2
  rw [if_neg (nI_neg1 (by omega)), e, show S4 56 16 = nI m by rw [hF4 56 16 (by omega), hF3 56 16 (by omega) (by omega)]; exact h162, nI_clamp (n := m) (by omega)]
  refine ⟨x_ib_n (by omega) (by decide), ?_⟩
  intro S5 h5
  rw [show S5 56 16 = nI m by rw [h5, x_up_ne (by omega), hF4 56 16 (by omega), hF3 56 16 (by omega) (by omega)]; exact h162, ← nI_succ]
  intro S6 h6
  have hT6 : t_TM S6 tp n (t_nx tp n (t_nx tp n (t_nx tp n q))) := t_TM_c (fun k h1 h2 => by rw [h6, x_up_ne (by omega), h5, x_up_ne (by omega)]) hT4
  have hM6 : t_M S6 tp n := t_M_c (fun p k hp => by rw [h6, x_up_ne (by omega), h5, x_up_ne (by omega), hF4 p k (by omega)]) hM3
  have hq3 := (t_nx_le (tp := tp) hq2).2
  refine ⟨_, c_readsSign hM6 hB hq3 hT6, ?_⟩
  rintro v7 S7 ⟨r1, r2, r3⟩
  have hR7 : t_RM S7 tp n q0 (m + 1) := by
    refine ⟨by rw [r3 56 16 (by omega), h6]; exact x_up_at _ _ _ _, fun c hc => ?_⟩
    rw [r3 64 c (by omega), r3 65 c (by omega), h6, x_up_ne (by omega), x_up_ne (by omega), h5]
    by_cases hcm : c = m
    · rw [hcm, ← hqm, x_up_ne (by omega), x_up_at, hF4 64 m (by omega), h643]
      exact ⟨rfl, rfl⟩
    · rw [x_up_ne (by omega), x_up_ne (by omega), hF4 64 c (by omega), hF4 65 c (by omega), hF3 64 c (by omega) (by omega), hF3 65 c (by omega) (by omega), hF2 64 c (by omega), hF2 65 c (by omega)]
      exact hR.2 c (by omega)
  have h36 : S6 56 3 = S 56 3 := by rw [h6, x_up_ne (by omega), h5, x_up_ne (by omega), h34, h33, hF2 56 3 (by omega)]
  refine ⟨t_rs_b r1, _, rfl, ?_, r2, t_sig_le hq3, fun _ => hR7, fun p k z1 z2 z3 => ?_⟩
  · rcases r1 with ⟨a1, a2, a3⟩ | ⟨a1, a2, a3⟩
    · exact Or.inl ⟨a1, a2, a3.trans h36⟩
    · exact Or.inr ⟨a1, a2, a3⟩
  · rw [r3 p k (by omega), h6, x_up_ne (by omega), h5, x_up_ne (by omega), hF4 p k (by omega), hF3 p k (by omega) (by omega), hF2 p k (by omega)]
theorem c_readsAll (hM : t_M S tp n) (hB : t_B tp n) : x_Ci xs (d + 5) 110 [.ref 56] S (fun r S' => t_rs (t_game tp n).1 r S S' ∧ S' 56 11 = nI (t_game tp n).2.1 ∧ ((t_game tp n).1 = 0 → t_RM S' tp n (t_tabq tp n) (t_game tp n).2.2 ∧ ∀ k, k < 9 → S' 63 k = nI (t_tv tp n k)) ∧ ∀ p k, ¬ (p = 56 ∧ (k = 3 ∨ (10 ≤ k ∧ k ≤ 12) ∨ k = 16)) → ¬ (63 ≤ p ∧ p ≤ 65) → S' p k = S p k) := by
  have hn := hB.1
  refine x_Ci_of (by rw [ml_110]; rfl) (T_110_0 ?_)
  intro S1 h1 S2 h2
  have hM2 : t_M S2 tp n := t_M_c (fun p k hp => by rw [h2, x_up_ne (by omega), h1, x_up_ne (by omega)]) hM
  refine ⟨_, c_token (p := 0) hM2 hB (by omega) (by rw [h2, x_up_ne (by omega), h1]; exact x_up_at _ _ _ _), ?_⟩
  rintro S3 ⟨hT3, hF3⟩
  have hM3 := t_M_FT hF3 hM2
  have hq0 := (t_q_le (tp := tp) _ 0 rfl (show 0 ≤ n by omega)).2
  refine ⟨_, c_readsTable hM3 hB hq0 hT3, ?_⟩
  rintro v S4 ⟨hrs, hT4, hq1, htab, hF4⟩
  have s33 : S3 56 3 = S 56 3 := by rw [hF3 56 3 (by omega), h2, x_up_ne (by omega), h1, x_up_ne (by omega)]
  by_cases hz : (t_tab tp n (t_q tp n 0)).1 = 0
  case neg =>
    obtain ⟨rfl, h34⟩ := t_rs_0 hrs hz
    have e : t_game tp n = ((t_tab tp n (t_q tp n 0)).1, t_tabq tp n, 0) := by unfold t_game; rw [if_neg hz]
    rw [if_pos rfl, e]
    exact ⟨_, rfl, Or.inr ⟨hz, rfl, h34⟩, hT4.2.1, fun z => absurd z hz, fun p k z1 z2 => by rw [hF4 p k (by omega) (by omega), hF3 p k (by omega), h2, x_up_ne (by omega), h1, x_up_ne (by omega)]⟩
  case pos =>
  obtain ⟨rfl, h34⟩ := t_rs_1 hrs hz
  have e : t_game tp n = t_cards tp n 15 0 (t_tabq tp n) := by unfold t_game; rw [if_pos hz]
  have hT4 : t_TM S4 tp n (t_tabq tp n) := hT4
  have hq1 : t_tabq tp n ≤ n := hq1
  have hM4 : t_M S4 tp n := t_M_c (fun p k hp => hF4 p k (by omega) (by omega)) hM3
  have hF04 : ∀ p k, ¬ (p = 56 ∧ (k = 3 ∨ (10 ≤ k ∧ k ≤ 12) ∨ k = 16)) → ¬ (63 ≤ p ∧ p ≤ 65) → S4 p k = S p k := fun p k z1 z2 => by rw [hF4 p k (by omega) (by omega), hF3 p k (by omega), h2, x_up_ne (by omega), h1, x_up_ne (by omega)]
  have h164 : S4 56 16 = nI 0 := by rw [hF4 56 16 (by omega) (by omega), hF3 56 16 (by omega), h2]; exact x_up_at _ _ _ _
  have htab4 := htab hz
  rw [if_neg (by decide), e]
  generalize hq1d : t_tabq tp n = q1 at hT4 hq1
  generalize hGd : t_cards tp n 15 0 q1 = G
  -- one card more
  have card : ∀ f m (U : x_M), m ≤ 14 → m + (f + 1) = 15 → ¬ (0 < m ∧ n ≤ t_qc tp n q1 m) → t_cards tp n (f + 1) m (t_qc tp n q1 m) = G → t_M U tp n → t_TM U tp n (t_qc tp n q1 m) → t_qc tp n q1 m ≤ n → t_RM U tp n q1 m → U 56 3 = S 56 3 → (∀ k, k < 9 → U 63 k = nI (t_tv tp n k)) → (∀ p k, ¬ (p = 56 ∧ (k = 3 ∨ (10 ≤ k ∧ k ≤ 12) ∨ k = 16)) → ¬ (63 ≤ p ∧ p ≤ 65) → U p k = S p k) →
      (∀ (U1 : x_M), t_cards tp n f (m + 1) (t_qc tp n q1 (m + 1)) = G → t_M U1 tp n → t_TM U1 tp n (t_qc tp n q1 (m + 1)) → t_qc tp n q1 (m + 1) ≤ n → t_RM U1 tp n q1 (m + 1) → U1 56 3 = S 56 3 → (∀ k, k < 9 → U1 63 k = nI (t_tv tp n k)) → (∀ p k, ¬ (p = 56 ∧ (k = 3 ∨ (10 ≤ k ∧ k ≤ 12) ∨ k = 16)) → ¬ (63 ≤ p ∧ p ≤ 65) → U1 p k = S p k) → m + 1 ≤ 14 → x_E xs (d + 4 + 1) 110 30 [.ref 56] [] U1 (fun r S' => ∃ v : Int32, r = some (.int v) ∧ t_rs G.1 v S S' ∧ S' 56 11 = nI G.2.1 ∧ (G.1 = 0 → t_RM S' tp n q1 G.2.2 ∧ ∀ k, k < 9 → S' 63 k = nI (t_tv tp n k)) ∧ ∀ p k, ¬ (p = 56 ∧ (k = 3 ∨ (10 ≤ k ∧ k ≤ 12) ∨ k = 16)) → ¬ (63 ≤ p ∧ p ≤ 65) → S' p k = S p k)) →
      ∃ P : Int32 → x_M → Prop, x_Ci xs (d + 4) 118 [.ref 56] U P ∧ ∀ (v : Int32) (U1 : x_M), P v U1 → if v = 0 then (∃ v : Int32, some (Value.int 0) = some (.int v) ∧ t_rs G.1 v S U1 ∧ U1 56 11 = nI G.2.1 ∧ (G.1 = 0 → t_RM U1 tp n q1 G.2.2 ∧ ∀ k, k < 9 → U1 63 k = nI (t_tv tp n k)) ∧ ∀ p k, ¬ (p = 56 ∧ (k = 3 ∨ (10 ≤ k ∧ k ≤ 12) ∨ k = 16)) → ¬ (63 ≤ p ∧ p ≤ 65) → U1 p k = S p k) else x_E xs (d + 4 + 1) 110 30 [.ref 56] [] U1 (fun r S' => ∃ v : Int32, r = some (.int v) ∧ t_rs G.1 v S S' ∧ S' 56 11 = nI G.2.1 ∧ (G.1 = 0 → t_RM S' tp n q1 G.2.2 ∧ ∀ k, k < 9 → S' 63 k = nI (t_tv tp n k)) ∧ ∀ p k, ¬ (p = 56 ∧ (k = 3 ∨ (10 ≤ k ∧ k ≤ 12) ∨ k = 16)) → ¬ (63 ≤ p ∧ p ≤ 65) → S' p k = S p k) := by
    intro f m U hm14 hmf hnot hcs hMU hTU hql hRU h3U htU hFU K
    have hstep : t_cards tp n (f + 1) m (t_qc tp n q1 m) = if 0 < m ∧ n ≤ t_qc tp n q1 m then (0, t_qc tp n q1 m, m) else if (t_card tp n m (t_qc tp n q1 m)).1 = 0 then t_cards tp n f (m + 1) (t_card tp n m (t_qc tp n q1 m)).2 else ((t_card tp n m (t_qc tp n q1 m)).1, (t_card tp n m (t_qc tp n q1 m)).2, m) := rfl
    rw [if_neg hnot] at hstep
    refine ⟨_, c_readsCard hm14 hMU hB hql hTU hRU rfl, ?_⟩
    rintro v U1 ⟨hr1, hT1, hq2, hR1, hF1⟩
    have hFS : ∀ p k, ¬ (p = 56 ∧ (k = 3 ∨ (10 ≤ k ∧ k ≤ 12) ∨ k = 16)) → ¬ (63 ≤ p ∧ p ≤ 65) → U1 p k = S p k := fun p k z1 z2 => by rw [hF1 p k z1 (by omega) (by omega)]; exact hFU p k z1 z2
    by_cases hc : (t_card tp n m (t_qc tp n q1 m)).1 = 0
    · obtain ⟨rfl, h31⟩ := t_rs_1 hr1 hc
      rw [if_pos hc] at hstep
      rw [if_neg (by decide)]
      have hm13 : m ≠ 14 := fun z => by rw [z] at hc; exact t_card_14 hc
      exact K U1 (hstep.symm.trans hcs) (t_M_c (fun p k hp => hF1 p k (by omega) (by omega) (by omega)) hMU) hT1 hq2 (hR1 hc) (h31.trans h3U) (fun k hk => by rw [hF1 63 k (by omega) (by omega) (by omega)]; exact htU k hk) hFS (by omega)
    · obtain ⟨rfl, h31⟩ := t_rs_0 hr1 hc
      rw [if_neg hc] at hstep
      rw [if_pos rfl, ← hcs, hstep]
      exact ⟨_, rfl, Or.inr ⟨hc, rfl, h31⟩, hT1.2.1, fun z => absurd z hc, hFS⟩
  have loop : ∀ f m (U : x_M), m + f = 15 → m ≤ 14 → 0 < m → t_cards tp n f m (t_qc tp n q1 m) = G → t_M U tp n → t_TM U tp n (t_qc tp n q1 m) → t_qc tp n q1 m ≤ n → t_RM U tp n q1 m → U 56 3 = S 56 3 → (∀ k, k < 9 → U 63 k = nI (t_tv tp n k)) → (∀ p k, ¬ (p = 56 ∧ (k = 3 ∨ (10 ≤ k ∧ k ≤ 12) ∨ k = 16)) → ¬ (63 ≤ p ∧ p ≤ 65) → U p k = S p k) → x_E xs (d + 4 + 1) 110 30 [.ref 56] [] U (fun r S' => ∃ v : Int32, r = some (.int v) ∧ t_rs G.1 v S S' ∧ S' 56 11 = nI G.2.1 ∧ (G.1 = 0 → t_RM S' tp n q1 G.2.2 ∧ ∀ k, k < 9 → S' 63 k = nI (t_tv tp n k)) ∧ ∀ p k, ¬ (p = 56 ∧ (k = 3 ∨ (10 ≤ k ∧ k ≤ 12) ∨ k = 16)) → ¬ (63 ≤ p ∧ p ≤ 65) → S' p k = S p k) := by
    intro f
    induction f with
    | zero => intro m U h1 h2; omega
    | succ f ih =>
      intro m U hmf hm14 hm0 hcs hMU hTU hql hRU h3U htU hFU
      refine T_110_30 ?_
      rw [hMU.1, hTU.2.1]
      by_cases hend : n ≤ t_qc tp n q1 m
      · rw [if_pos (nI_le hend (by omega))]
        have hstep : t_cards tp n (f + 1) m (t_qc tp n q1 m) = if 0 < m ∧ n ≤ t_qc tp n q1 m then (0, t_qc tp n q1 m, m) else if (t_card tp n m (t_qc tp n q1 m)).1 = 0 then t_cards tp n f (m + 1) (t_card tp n m (t_qc tp n q1 m)).2 else ((t_card tp n m (t_qc tp n q1 m)).1, (t_card tp n m (t_qc tp n q1 m)).2, m) := rfl
        rw [if_pos ⟨hm0, hend⟩] at hstep
        rw [← hcs, hstep]
        exact ⟨_, rfl, Or.inl ⟨rfl, rfl, h3U⟩, rfl, fun _ => ⟨hRU, htU⟩, hFU⟩
      · rw [if_neg (nI_ge (by omega) (by omega))]
        exact card f m U hm14 hmf (fun z => hend z.2) hcs hMU hTU hql hRU h3U htU hFU (fun U1 k1 k2 k3 k4 k5 k6 k7 k8 k9 => ih (m + 1) U1 (by omega) k9 (by omega) k1 k2 k3 k4 k5 k6 k7 k8)
  exact card 14 0 S4 (by omega) rfl (fun z => absurd z.1 (Nat.lt_irrefl 0)) hGd hM4 hT4 hq1 ⟨h164, fun c hc => by omega⟩ (h34.trans s33) htab4 hF04 (fun U1 k1 k2 k3 k4 k5 k6 k7 k8 k9 => loop 14 1 U1 rfl k9 (by omega) k1 k2 k3 k4 k5 k6 k7 k8)
end READM
