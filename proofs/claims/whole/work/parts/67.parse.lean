/-! THE GRAMMAR: a fault's number (0: none), and the token behind -/
def t_nf (tp : Nat → Nat) (n q mx : Nat) : Nat := if t_k tp n q = 2 then (if t_va tp q (t_e tp n q - q) ≤ mx then 0 else 2) else 1
def t_vl (tp : Nat → Nat) (n q : Nat) : Nat := t_va tp q (t_e tp n q - q)
def t_wd (tp : Nat → Nat) (n q : Nat) (w : List Nat) : Bool := decide (t_e tp n q - q = w.length ∧ ∀ i, i < w.length → tp (q + i) = w.getD i 0)
def t_sg (tp : Nat → Nat) (n q : Nat) : Bool := decide (q < n ∧ tp q = 59)
def t_ho (tp : Nat → Nat) (n q : Nat) : Bool := @decide (t_e tp n q - q = 9 ∧ ∀ i, i < 9 → (tp (q + i) = 111 ∨ tp (q + i) = 120)) (@instDecidableAnd _ _ _ (Nat.decidableBallLT 9 (fun i _ => tp (q + i) = 111 ∨ tp (q + i) = 120)))
def t_hs (tp : Nat → Nat) (q : Nat) : Nat → Nat
  | 0 => 0
  | k + 1 => t_hs tp q k ||| (if tp (q + k) = 111 then 2 ^ k else 0)
def t_nums (tp : Nat → Nat) (n : Nat) : Nat → Nat → Nat × Nat
  | 0, q => (0, q)
  | k + 1, q => if t_nf tp n q 99 = 0 then t_nums tp n k (t_nx tp n q) else (t_nf tp n q 99, q)
def t_it (tp : Nat → Nat) (n q : Nat) : Nat → Nat
  | 0 => q
  | k + 1 => t_nx tp n (t_it tp n q k)
def t_sig (tp : Nat → Nat) (n q : Nat) : Nat × Nat := if t_sg tp n q = true then (0, t_nx tp n q) else (1, q)
def t_tab (tp : Nat → Nat) (n q : Nat) : Nat × Nat := if t_wd tp n q (t_w 3) = true then (if (t_nums tp n 9 (t_nx tp n q)).1 = 0 then t_sig tp n (t_nums tp n 9 (t_nx tp n q)).2 else t_nums tp n 9 (t_nx tp n q)) else (1, q)
def t_card (tp : Nat → Nat) (n m q : Nat) : Nat × Nat := if t_wd tp n q (t_w 4) = true then (if m = 14 then (3, q) else if t_ho tp n (t_nx tp n q) = true then (if t_nf tp n (t_nx tp n (t_nx tp n q)) 1 = 0 then t_sig tp n (t_nx tp n (t_nx tp n (t_nx tp n q))) else (t_nf tp n (t_nx tp n (t_nx tp n q)) 1, t_nx tp n (t_nx tp n q))) else (1, t_nx tp n q)) else (1, q)
/-- fault, token, how many cards -/
def t_cards (tp : Nat → Nat) (n : Nat) : Nat → Nat → Nat → Nat × Nat × Nat
  | 0, m, q => (1, q, m)
  | f + 1, m, q => if 0 < m ∧ n ≤ q then (0, q, m) else if (t_card tp n m q).1 = 0 then t_cards tp n f (m + 1) (t_card tp n m q).2 else ((t_card tp n m q).1, (t_card tp n m q).2, m)
/-- where the cards begin -/
def t_qc (tp : Nat → Nat) (n q : Nat) : Nat → Nat
  | 0 => q
  | m + 1 => (t_card tp n m (t_qc tp n q m)).2
/-- the holes, the hand of a card that begins there -/
def t_hc (tp : Nat → Nat) (n q : Nat) : Nat := t_hs tp (t_nx tp n q) 9
def t_dc (tp : Nat → Nat) (n q : Nat) : Nat := t_vl tp n (t_nx tp n (t_nx tp n q))
/-- the cards of a hand -/
def t_lf (dc : Nat → Nat) (h : Nat) : Nat → Nat
  | 0 => 0
  | m + 1 => t_lf dc h m ||| (if dc m = h then 2 ^ m else 0)
theorem t_hs_lt {tp : Nat → Nat} {q : Nat} : ∀ k, t_hs tp q k < 2 ^ k := by
  intro k
  induction k with
  | zero => show 0 < 1; omega
  | succ k ih =>
    have h2 : 2 ^ k < 2 ^ (k + 1) := Nat.pow_lt_pow_right (by omega) (by omega)
    show t_hs tp q k ||| (if tp (q + k) = 111 then 2 ^ k else 0) < 2 ^ (k + 1)
    refine Nat.or_lt_two_pow (by omega) ?_
    split
    · exact h2
    · exact Nat.pow_pos (by omega)
theorem t_lf_lt {dc : Nat → Nat} {h : Nat} : ∀ k, t_lf dc h k < 2 ^ k := by
  intro k
  induction k with
  | zero => show 0 < 1; omega
  | succ k ih =>
    have h2 : 2 ^ k < 2 ^ (k + 1) := Nat.pow_lt_pow_right (by omega) (by omega)
    show t_lf dc h k ||| (if dc k = h then 2 ^ k else 0) < 2 ^ (k + 1)
    refine Nat.or_lt_two_pow (by omega) ?_
    split
    · exact h2
    · exact Nat.pow_pos (by omega)
theorem t_so_w {b : Nat} (h : 97 ≤ b ∧ b ≤ 122) : t_so b = 1 := by unfold t_so; rw [if_pos h]
theorem t_k_name {tp : Nat → Nat} {n q : Nat} (hq : q < n) : t_k tp n q = 1 ↔ t_so (tp q) = 1 := by
  unfold t_k
  rw [if_pos hq]
  constructor
  · intro h
    by_cases h1 : t_so (tp q) = 1
    · exact h1
    · rw [if_neg h1] at h
      split at h
      · split at h <;> omega
      · split at h <;> omega
  · intro h
    rw [if_pos h]
section PARSE
variable {xs : List Int32} {d : Nat} {S : x_M} {tp : Nat → Nat} {n q : Nat}
theorem c_isWordC {a : Nat} (ha : a = 3 ∨ a = 4) (hC : t_C S tp n) (hB : t_B tp n) (hq : q ≤ n) (hT : t_TC S tp n q) : x_Cr xs (d + 5) 38 [.ref 10, .ref a] S (x_b (t_wd tp n q (t_w a))) := by
  have hn := hB.1
  have he := t_e_le (tp := tp) hq
  have hlen : 4 ≤ (t_w a).length ∧ (t_w a).length ≤ 5 := by
    rcases ha with rfl | rfl
    · exact ⟨by decide, by decide⟩
    · exact ⟨by decide, by decide⟩
  have hlow : ∀ i, i < (t_w a).length → 97 ≤ (t_w a).getD i 0 ∧ (t_w a).getD i 0 ≤ 122 := by
    intro i hi
    rcases ha with rfl | rfl
    · have hi : i < 5 := hi
      rcases (by omega : i = 0 ∨ i = 1 ∨ i = 2 ∨ i = 3 ∨ i = 4) with rfl | rfl | rfl | rfl | rfl <;> decide
    · have hi : i < 4 := hi
      rcases (by omega : i = 0 ∨ i = 1 ∨ i = 2 ∨ i = 3) with rfl | rfl | rfl | rfl <;> decide
  obtain ⟨t3, t4, t2, t5⟩ := hT
  refine x_Ci_of (by rw [ml_38]; rfl) (T_38_0 ha ?_)
  rw [t2, t4, t3, nI_sub he.1]
  by_cases hk : t_k tp n q = 1
  case neg =>
    rw [if_neg (show ¬ nI (t_k tp n q) = 1 from fun z => hk ((nI_eq (b := 1) (by
      unfold t_k
      split
      · split
        · omega
        · split
          · split <;> omega
          · split <;> omega
      · omega) (by omega)).mp z))]
    refine x_rt_i (x_b_f (fun z => ?_))
    unfold t_wd at z
    rw [decide_eq_true_eq] at z
    have hqn : q < n := by
      by_cases h : q < n
      · exact h
      · have : t_e tp n q = q := by unfold t_e; rw [if_neg h]
        omega
    have h0 := z.2 0 (by omega)
    rw [Nat.add_zero] at h0
    exact hk ((t_k_name hqn).mpr (t_so_w (by rw [h0]; exact hlow 0 (by omega))))
  case pos =>
  rw [if_pos (by rw [hk]; rfl)]
  refine x_rd (c_wlen ha) ?_
  by_cases hl : t_e tp n q - q = (t_w a).length
  case neg =>
    rw [if_neg (fun z => hl ((nI_eq (by omega) (by omega)).mp z))]
    exact x_rt_i (x_b_f (fun z => by unfold t_wd at z; rw [decide_eq_true_eq] at z; exact hl z.1))
  case pos =>
  rw [if_pos (by rw [hl])]
  have loop : ∀ i k, k + i = (t_w a).length → (∀ j, j < k → tp (q + j) = (t_w a).getD j 0) → x_E xs (d + 5) 38 28 [.ref 10, .ref a, .int (nI k)] [] S (fun r S' => ∃ v : Int32, r = some (.int v) ∧ v = x_b (t_wd tp n q (t_w a)) ∧ S' = S) := by
    intro i
    induction i with
    | zero =>
      intro k hk hall
      refine T_38_28 ha (x_rd (c_wlen ha) ?_)
      rw [if_pos (nI_le (by omega) (by omega))]
      refine x_rt_i (x_b_t ?_)
      unfold t_wd
      rw [decide_eq_true_eq]
      exact ⟨hl, fun j hj => hall j (by omega)⟩
    | succ i ih =>
      intro k hk hall
      refine T_38_28 ha (x_rd (c_wlen ha) ?_)
      rw [if_neg (nI_ge (by omega) (by omega)), t3, nI_add]
      refine x_rd (c_byteAt hC hn (by omega)) (x_rd (c_wchr ha (by omega)) ?_)
      have hb := hB.2 (q + k) (by omega)
      have hw := hlow k (by omega)
      by_cases h : tp (q + k) = (t_w a).getD k 0
      · rw [if_pos (by rw [h]), ← nI_succ]
        refine ih (k + 1) (by omega) (fun j hj => ?_)
        by_cases hjk : j = k
        · rw [hjk]; exact h
        · exact hall j (by omega)
      · rw [if_neg (fun z => h ((nI_eq (by omega) (by omega)).mp z))]
        refine x_rt_i (x_b_f (fun z => ?_))
        unfold t_wd at z
        rw [decide_eq_true_eq] at z
        exact h (z.2 k (by omega))
  exact loop (t_w a).length 0 (by omega) (fun j hj => by omega)
theorem c_windows (hC : t_C S tp n) (hB : t_B tp n) (hq : q ≤ n) (hT : t_TC S tp n q) : x_Cr xs (d + 2) 39 [.ref 10] S (if t_ho tp n q = true then nI (t_hs tp q 9) else -1000000) := by
  have hn := hB.1
  have he := t_e_le (tp := tp) hq
  obtain ⟨t3, t4, t2, t5⟩ := hT
  refine x_Ci_of (by rw [ml_39]; rfl) (T_39_0 ?_)
  rw [t2, t4, t3, nI_sub he.1]
  have hkb : t_k tp n q < 2 ^ 31 := by
    unfold t_k
    split
    · split
      · omega
      · split
        · split <;> omega
        · split <;> omega
    · omega
  by_cases hk : t_k tp n q = 1
  case neg =>
    rw [if_neg (show ¬ nI (t_k tp n q) = 1 from fun z => hk ((nI_eq (b := 1) hkb (by omega)).mp z))]
    refine x_rt_i ?_
    rw [if_neg]
    intro z
    unfold t_ho at z
    rw [decide_eq_true_eq] at z
    have hqn : q < n := by
      by_cases h : q < n
      · exact h
      · have : t_e tp n q = q := by unfold t_e; rw [if_neg h]
        omega
    have h0 := z.2 0 (by omega)
    rw [Nat.add_zero] at h0
    exact hk ((t_k_name hqn).mpr (t_so_w (by omega)))
  case pos =>
  rw [if_pos (by rw [hk]; rfl)]
  by_cases hl : t_e tp n q - q = 9
  case neg =>
    rw [if_neg (show ¬ nI (t_e tp n q - q) = 9 from fun z => hl ((nI_eq (b := 9) (by omega) (by omega)).mp z))]
    refine x_rt_i ?_
    rw [if_neg]
    intro z
    unfold t_ho at z
    rw [decide_eq_true_eq] at z
    exact hl z.1
  case pos =>
  rw [if_pos (by rw [hl]; rfl)]
  have loop : ∀ i k, k + i = 9 → (∀ j, j < k → tp (q + j) = 111 ∨ tp (q + j) = 120) → ∀ a3 : Value, x_E xs (d + 2) 39 29 [.ref 10, .int (nI (t_hs tp q k)), .int (nI k), a3] [] S (fun r S' => ∃ v : Int32, r = some (.int v) ∧ v = (if t_ho tp n q = true then nI (t_hs tp q 9) else -1000000) ∧ S' = S) := by
    intro i
    induction i with
    | zero =>
      intro k hk hall a3
      refine T_39_29 ?_
      rw [if_pos (show (9 : Int32) ≤ nI k from nI_le (a := 9) (by omega) (by omega))]
      refine x_rt_i ?_
      rw [if_pos, show k = 9 by omega]
      unfold t_ho
      rw [decide_eq_true_eq]
      exact ⟨hl, fun j hj => hall j (by omega)⟩
    | succ i ih =>
      intro k hk hall a3
      refine T_39_29 ?_
      rw [if_neg (show ¬ (9 : Int32) ≤ nI k from nI_ge (b := 9) (by omega) (by decide)), t3, nI_add]
      refine x_rd (c_byteAt hC hn (by omega)) ?_
      have hb := hB.2 (q + k) (by omega)
      have k1 : nI (tp (q + k)) = 111 ↔ tp (q + k) = 111 := nI_eq (b := 111) (by omega) (by omega)
      have k2 : nI (tp (q + k)) = 120 ↔ tp (q + k) = 120 := nI_eq (b := 120) (by omega) (by omega)
      have hlt := t_hs_lt (tp := tp) (q := q) k
      have hs : t_hs tp q (k + 1) = t_hs tp q k ||| (if tp (q + k) = 111 then 2 ^ k else 0) := rfl
      by_cases h1 : tp (q + k) = 111
      · have hi := ih (k + 1) (by omega) (fun j hj => by
          by_cases hjk : j = k
          · rw [hjk]; exact Or.inl h1
          · exact hall j (by omega))
        rw [hs, if_pos h1, nI_succ, ← nI_or, ← x_one_shl (by omega)] at hi
        rw [if_pos (k1.mpr h1), if_pos (k1.mpr h1)]
        exact hi _
      · rw [if_neg (fun z => h1 (k1.mp z))]
        by_cases h2 : tp (q + k) = 120
        · have hi := ih (k + 1) (by omega) (fun j hj => by
            by_cases hjk : j = k
            · rw [hjk]; exact Or.inr h2
            · exact hall j (by omega))
          rw [hs, if_neg h1, nI_succ, Nat.or_zero] at hi
          rw [if_pos (k2.mpr h2), if_neg (fun z => h1 (k1.mp z))]
          exact hi _
        · rw [if_neg (fun z => h2 (k2.mp z))]
          refine x_rt_i ?_
          rw [if_neg]
          intro z
          unfold t_ho at z
          rw [decide_eq_true_eq] at z
          rcases z.2 k (by omega) with h3 | h3
          · exact h1 h3
          · exact h2 h3
  exact loop 9 0 rfl (fun j hj => by omega) _
theorem t_k_le : t_k tp n q ≤ 4 := by
  unfold t_k
  split
  · split
    · omega
    · split
      · split <;> omega
      · split <;> omega
  · omega
/-- a token of figures, at most three -/
theorem t_k_num (h : t_k tp n q = 2) : q < n ∧ t_so (tp q) = 2 ∧ t_e tp n q - q ≤ 3 := by
  unfold t_k at h
  by_cases h1 : q < n
  · rw [if_pos h1] at h
    by_cases h2 : t_so (tp q) = 1
    · rw [if_pos h2] at h; omega
    · rw [if_neg h2] at h
      by_cases h3 : t_so (tp q) = 2
      · rw [if_pos h3] at h
        refine ⟨h1, h3, ?_⟩
        split at h
        next h4 => exact h4
        next => omega
      · rw [if_neg h3] at h
        split at h <;> omega
  · rw [if_neg h1] at h; omega
theorem t_vl_lt (h : t_k tp n q = 2) : t_va tp q (t_e tp n q - q) < 1000 := by
  obtain ⟨h1, h2, h3⟩ := t_k_num h
  have he := t_e_le (tp := tp) (n := n) (q := q) (by omega)
  have h4 := t_va_le (tp := tp) (q := q) (t_e tp n q - q) (by omega) (fun i hi => by
    have h5 := t_e_in (tp := tp) h1 (by omega) (q + i) (by omega) (by omega)
    have h6 := t_fig (h5.trans h2)
    omega)
  have h7 : 10 ^ (t_e tp n q - q) ≤ 10 ^ 3 := Nat.pow_le_pow_right (by omega) h3
  omega
theorem c_numFault {mx : Nat} (hT : t_TC S tp n q) (hm : mx < 1000) : x_Cr xs (d + 1) 54 [.ref 10, .int (nI mx)] S (nI (t_nf tp n q mx)) := by
  obtain ⟨t3, t4, t2, t5⟩ := hT
  refine x_Ci_of (by rw [ml_54]; rfl) (T_54_0 ?_)
  have hkl := t_k_le (tp := tp) (n := n) (q := q)
  rw [t2]
  unfold t_nf
  by_cases hk : t_k tp n q = 2
  · rw [if_pos (show nI (t_k tp n q) = 2 by rw [hk]; rfl), if_pos hk, t5 hk]
    have hv := t_vl_lt hk
    by_cases hle : t_va tp q (t_e tp n q - q) ≤ mx
    · rw [if_pos (nI_le hle (by omega)), if_pos hle]
      exact x_rt_i rfl
    · rw [if_neg (nI_ge (by omega) (by omega)), if_neg hle]
      exact x_rt_i rfl
  · rw [if_neg (show ¬ nI (t_k tp n q) = 2 from fun z => hk ((nI_eq (b := 2) (by omega) (by omega)).mp z)), if_neg hk]
    exact x_rt_i rfl
theorem t_k_sg : t_k tp n q = 3 ↔ t_sg tp n q = true := by
  unfold t_k t_sg
  rw [decide_eq_true_eq]
  by_cases h1 : q < n
  · rw [if_pos h1]
    by_cases h2 : t_so (tp q) = 1
    · rw [if_pos h2]
      refine ⟨fun z => by omega, fun z => ?_⟩
      rw [z.2] at h2
      exact absurd h2 (by decide)
    · rw [if_neg h2]
      by_cases h3 : t_so (tp q) = 2
      · rw [if_pos h3]
        refine ⟨fun z => by split at z <;> omega, fun z => ?_⟩
        rw [z.2] at h3
        exact absurd h3 (by decide)
      · rw [if_neg h3]
        by_cases h4 : tp q = 59
        · rw [if_pos h4]
          exact ⟨fun _ => ⟨h1, h4⟩, fun _ => rfl⟩
        · rw [if_neg h4]
          exact ⟨fun z => by omega, fun z => absurd z.2 h4⟩
  · rw [if_neg h1]
    exact ⟨fun z => by omega, fun z => absurd z.1 h1⟩
theorem t_FA_tr {S1 S2 S3 : x_M} (h1 : t_FA S1 S2) (h2 : t_FA S2 S3) : t_FA S1 S3 := fun p k z => (h2 p k z).trans (h1 p k z)
theorem t_C_FA {S' : x_M} (h : t_FA S S') (hC : t_C S tp n) : t_C S' tp n := t_C_c (fun p k hp => h p k (by omega)) hC
/-- to the next token -/
theorem c_next (hC : t_C S tp n) (hB : t_B tp n) (hq : q ≤ n) (hT : t_TC S tp n q) : x_Cv xs (d + 3) 31 [.ref 10] S (fun S' => t_TC S' tp n (t_nx tp n q) ∧ t_FA S S') := c_advance hC hB (t_e_le hq).2.1 hT.2.1
theorem c_readSign (hC : t_C S tp n) (hB : t_B tp n) (hq : q ≤ n) (hT : t_TC S tp n q) : x_Ci xs (d + 4) 55 [.ref 10] S (fun r S' => r = nI (t_sig tp n q).1 ∧ t_TC S' tp n (t_sig tp n q).2 ∧ t_FA S S') := by
  have hkl := t_k_le (tp := tp) (n := n) (q := q)
  refine x_Ci_of (by rw [ml_55]; rfl) (T_55_0 ?_)
  rw [hT.2.2.1]
  unfold t_sig
  by_cases h : t_sg tp n q = true
  · rw [if_pos (show nI (t_k tp n q) = 3 by rw [t_k_sg.mpr h]; rfl), if_pos h]
    refine ⟨_, c_next hC hB hq hT, ?_⟩
    rintro S1 ⟨g1, g2⟩
    exact ⟨_, rfl, rfl, g1, g2⟩
  · rw [if_neg (show ¬ nI (t_k tp n q) = 3 from fun z => h (t_k_sg.mp ((nI_eq (b := 3) (by omega) (by omega)).mp z))), if_neg h]
    exact ⟨_, rfl, rfl, hT, fun _ _ _ => rfl⟩
theorem t_it_le (h : q ≤ n) : ∀ k, t_it tp n q k ≤ n := by
  intro k
  induction k with
  | zero => exact h
  | succ k ih => exact (t_nx_le ih).2
theorem c_readTable (hC : t_C S tp n) (hB : t_B tp n) (hq : q ≤ n) (hT : t_TC S tp n q) : x_Ci xs (d + 6) 53 [.ref 10, .ref 17] S (fun r S' => r = nI (t_tab tp n q).1 ∧ t_TC S' tp n (t_tab tp n q).2 ∧ (t_tab tp n q).2 ≤ n ∧ ((t_tab tp n q).1 = 0 → ∀ k, k < 9 → S' 18 k = nI (t_vl tp n (t_it tp n (t_nx tp n q) k)) ∧ t_vl tp n (t_it tp n (t_nx tp n q) k) ≤ 99) ∧ ∀ p k, ¬ (p = 10 ∧ 2 ≤ k) → p ≠ 18 → S' p k = S p k) := by
  have hn := hB.1
  refine x_Ci_of (by rw [ml_53]; rfl) (T_53_0 (by decide) (x_rd (c_isWordC (Or.inl rfl) hC hB hq hT) ?_))
  by_cases hw : t_wd tp n q (t_w 3) = true
  case neg =>
    rw [if_pos (x_b_0.mpr hw)]
    have e : t_tab tp n q = (1, q) := by unfold t_tab; rw [if_neg hw]
    rw [e]
    exact ⟨_, rfl, rfl, hT, hq, fun z => absurd (show (1 : Nat) = 0 from z) (by decide), fun _ _ _ _ => rfl⟩
  case pos =>
  have e : t_tab tp n q = if (t_nums tp n 9 (t_nx tp n q)).1 = 0 then t_sig tp n (t_nums tp n 9 (t_nx tp n q)).2 else t_nums tp n 9 (t_nx tp n q) := by unfold t_tab; rw [if_pos hw]
  rw [if_neg (x_b_ne hw), e]
  refine ⟨_, c_next hC hB hq hT, ?_⟩
  rintro S1 ⟨g1, g2⟩
  have hq1 := (t_nx_le (tp := tp) hq).2
  generalize t_nx tp n q = q0 at g1 hq1
  have loop : ∀ i k (U : x_M) (a3 : Value), k + i = 9 → (t_nums tp n i (t_it tp n q0 k)) = t_nums tp n 9 q0 → t_TC U tp n (t_it tp n q0 k) → (∀ j, j < k → U 18 j = nI (t_vl tp n (t_it tp n q0 j)) ∧ t_vl tp n (t_it tp n q0 j) ≤ 99) → (∀ p k, ¬ (p = 10 ∧ 2 ≤ k) → p ≠ 18 → U p k = S p k) → x_E xs (d + 6) 53 18 [.ref 10, .ref 17, .int (nI k), a3] [] U (fun r S' => ∃ v : Int32, r = some (.int v) ∧ v = nI (if (t_nums tp n 9 q0).1 = 0 then t_sig tp n (t_nums tp n 9 q0).2 else t_nums tp n 9 q0).1 ∧ t_TC S' tp n (if (t_nums tp n 9 q0).1 = 0 then t_sig tp n (t_nums tp n 9 q0).2 else t_nums tp n 9 q0).2 ∧ (if (t_nums tp n 9 q0).1 = 0 then t_sig tp n (t_nums tp n 9 q0).2 else t_nums tp n 9 q0).2 ≤ n ∧ ((if (t_nums tp n 9 q0).1 = 0 then t_sig tp n (t_nums tp n 9 q0).2 else t_nums tp n 9 q0).1 = 0 → ∀ k, k < 9 → S' 18 k = nI (t_vl tp n (t_it tp n q0 k)) ∧ t_vl tp n (t_it tp n q0 k) ≤ 99) ∧ ∀ p k, ¬ (p = 10 ∧ 2 ≤ k) → p ≠ 18 → S' p k = S p k) := by
    intro i
    induction i with
    | zero =>
      intro k U a3 hk hnum hTU hall hF
      have hk : k = 9 := by omega
      subst hk
      have hnum : (0, t_it tp n q0 9) = t_nums tp n 9 q0 := hnum
      have hCU := t_C_c (fun p k hp => hF p k (by omega) (by omega)) hC
      have hql := t_it_le (tp := tp) hq1 9
      refine T_53_18 (by decide) ?_
      rw [if_pos (show (9 : Int32) ≤ nI 9 by decide), ← hnum, if_pos rfl]
      refine ⟨_, c_readSign hCU hB hql hTU, ?_⟩
      rintro v S2 ⟨r1, r2, r3⟩
      refine ⟨_, rfl, r1, r2, ?_, fun _ k hk => ?_, fun p k z1 z2 => by rw [r3 p k z1]; exact hF p k z1 z2⟩
      · unfold t_sig
        split
        · exact (t_nx_le hql).2
        · exact hql
      · rw [r3 18 k (by omega)]
        exact hall k hk
    | succ i ih =>
      intro k U a3 hk hnum hTU hall hF
      have hCU := t_C_c (fun p k hp => hF p k (by omega) (by omega)) hC
      have hql := t_it_le (tp := tp) hq1 k
      refine T_53_18 (by decide) ?_
      rw [if_neg (show ¬ (9 : Int32) ≤ nI k from nI_ge (b := 9) (by omega) (by decide))]
      refine x_rd (c_numFault (mx := 99) hTU (by omega)) ?_
      have hstep : t_nums tp n (i + 1) (t_it tp n q0 k) = if t_nf tp n (t_it tp n q0 k) 99 = 0 then t_nums tp n i (t_nx tp n (t_it tp n q0 k)) else (t_nf tp n (t_it tp n q0 k) 99, t_it tp n q0 k) := rfl
      have hnfb : t_nf tp n (t_it tp n q0 k) 99 ≤ 2 := by
        unfold t_nf
        split
        · split <;> omega
        · omega
      by_cases hz : t_nf tp n (t_it tp n q0 k) 99 = 0
      · rw [if_pos hz] at hstep
        rw [if_pos (show nI (t_nf tp n (t_it tp n q0 k) 99) = 0 by rw [hz]; rfl), nI_clamp (by omega)]
        refine ⟨x_ib_n (by omega) (by decide), ?_⟩
        have hk2 : t_k tp n (t_it tp n q0 k) = 2 := by
          unfold t_nf at hz
          by_cases h2 : t_k tp n (t_it tp n q0 k) = 2
          · exact h2
          · rw [if_neg h2] at hz; omega
        have hv99 : t_vl tp n (t_it tp n q0 k) ≤ 99 := by
          unfold t_nf at hz
          rw [if_pos hk2] at hz
          unfold t_vl
          by_cases h3 : t_va tp (t_it tp n q0 k) (t_e tp n (t_it tp n q0 k) - t_it tp n q0 k) ≤ 99
          · exact h3
          · rw [if_neg h3] at hz; omega
        intro S3 hS3
        rw [hTU.2.2.2 hk2] at hS3
        have hS3 : S3 = x_up U 18 k (nI (t_vl tp n (t_it tp n q0 k))) := hS3
        have hT3 : t_TC S3 tp n (t_it tp n q0 k) := by
          obtain ⟨t3, t4, t2, t5⟩ := hTU
          exact ⟨by rw [hS3, x_up_ne (by omega)]; exact t3, by rw [hS3, x_up_ne (by omega)]; exact t4, by rw [hS3, x_up_ne (by omega)]; exact t2, fun z => by rw [hS3, x_up_ne (by omega)]; exact t5 z⟩
        have hC3 : t_C S3 tp n := t_C_c (fun p k hp => by rw [hS3, x_up_ne (by omega)]) hCU
        refine ⟨_, c_next hC3 hB hql hT3, ?_⟩
        rintro S4 ⟨r1, r2⟩
        rw [← nI_succ]
        refine ih (k + 1) S4 _ (by omega) (hstep.symm.trans hnum) r1 (fun j hj => ?_) (fun p k z1 z2 => by rw [r2 p k z1, hS3, x_up_ne (by omega)]; exact hF p k z1 z2)
        rw [r2 18 j (by omega), hS3]
        by_cases hjk : j = k
        · rw [hjk, x_up_at]
          exact ⟨rfl, hv99⟩
        · rw [x_up_ne (by omega)]
          exact hall j (by omega)
      · rw [if_neg hz] at hstep
        rw [if_neg (nI_ne0 (by omega) (by omega))]
        rw [← hnum, hstep, if_neg hz]
        exact ⟨_, rfl, rfl, hTU, hql, fun z => absurd z hz, hF⟩
  exact loop 9 0 S1 _ rfl rfl g1 (fun j hj => by omega) (fun p k z1 z2 => g2 p k z1)
end PARSE
