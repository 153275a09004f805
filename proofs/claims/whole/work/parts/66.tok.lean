/-! A TEXT OF n BYTES, cut into tokens: a token is told by its place -/
def t_so (b : Nat) : Nat := if 97 ≤ b ∧ b ≤ 122 then 1 else if 48 ≤ b ∧ b ≤ 57 then 2 else 0
def t_sk (tp : Nat → Nat) (n : Nat) : Nat → Nat → Nat
  | 0, p => p
  | f + 1, p => if p < n ∧ (tp p = 32 ∨ tp p = 10) then t_sk tp n f (p + 1) else p
def t_q (tp : Nat → Nat) (n p : Nat) : Nat := t_sk tp n (n - p) p
def t_ru (tp : Nat → Nat) (n s : Nat) : Nat → Nat → Nat
  | 0, p => p
  | f + 1, p => if p < n ∧ t_so (tp p) = s then t_ru tp n s f (p + 1) else p
def t_r (tp : Nat → Nat) (n s p : Nat) : Nat := t_ru tp n s (n - p) p
def t_e (tp : Nat → Nat) (n q : Nat) : Nat := if q < n then (if t_so (tp q) = 0 then q + 1 else t_r tp n (t_so (tp q)) (q + 1)) else q
def t_nx (tp : Nat → Nat) (n q : Nat) : Nat := t_q tp n (t_e tp n q)
def t_va (tp : Nat → Nat) (q : Nat) : Nat → Nat
  | 0 => 0
  | k + 1 => 10 * t_va tp q k + tp (q + k) - 48
theorem t_q_y {tp : Nat → Nat} {n p : Nat} (h : p < n) (hb : tp p = 32 ∨ tp p = 10) : t_q tp n p = t_q tp n (p + 1) := by
  unfold t_q
  rw [show n - p = (n - (p + 1)) + 1 by omega]
  show (if p < n ∧ (tp p = 32 ∨ tp p = 10) then t_sk tp n (n - (p + 1)) (p + 1) else p) = _
  rw [if_pos ⟨h, hb⟩]
theorem t_q_n {tp : Nat → Nat} {n p : Nat} (h : ¬ (p < n ∧ (tp p = 32 ∨ tp p = 10))) : t_q tp n p = p := by
  unfold t_q
  cases hf : n - p with
  | zero => rfl
  | succ f =>
    show (if p < n ∧ (tp p = 32 ∨ tp p = 10) then t_sk tp n f (p + 1) else p) = _
    rw [if_neg h]
theorem t_r_y {tp : Nat → Nat} {n s p : Nat} (h : p < n) (hb : t_so (tp p) = s) : t_r tp n s p = t_r tp n s (p + 1) := by
  unfold t_r
  rw [show n - p = (n - (p + 1)) + 1 by omega]
  show (if p < n ∧ t_so (tp p) = s then t_ru tp n s (n - (p + 1)) (p + 1) else p) = _
  rw [if_pos ⟨h, hb⟩]
theorem t_r_n {tp : Nat → Nat} {n s p : Nat} (h : ¬ (p < n ∧ t_so (tp p) = s)) : t_r tp n s p = p := by
  unfold t_r
  cases hf : n - p with
  | zero => rfl
  | succ f =>
    show (if p < n ∧ t_so (tp p) = s then t_ru tp n s f (p + 1) else p) = _
    rw [if_neg h]
theorem t_q_le {tp : Nat → Nat} {n : Nat} : ∀ f p, n - p = f → p ≤ n → p ≤ t_q tp n p ∧ t_q tp n p ≤ n := by
  intro f
  induction f with
  | zero =>
    intro p hf hp
    rw [t_q_n (fun z => by omega)]
    omega
  | succ f ih =>
    intro p hf hp
    by_cases h : p < n ∧ (tp p = 32 ∨ tp p = 10)
    · rw [t_q_y h.1 h.2]
      have := ih (p + 1) (by omega) (by omega)
      omega
    · rw [t_q_n h]
      omega
theorem t_r_le {tp : Nat → Nat} {n s : Nat} : ∀ f p, n - p = f → p ≤ n → p ≤ t_r tp n s p ∧ t_r tp n s p ≤ n := by
  intro f
  induction f with
  | zero =>
    intro p hf hp
    rw [t_r_n (fun z => by omega)]
    omega
  | succ f ih =>
    intro p hf hp
    by_cases h : p < n ∧ t_so (tp p) = s
    · rw [t_r_y h.1 h.2]
      have := ih (p + 1) (by omega) (by omega)
      omega
    · rw [t_r_n h]
      omega
theorem t_e_le {tp : Nat → Nat} {n q : Nat} (h : q ≤ n) : q ≤ t_e tp n q ∧ t_e tp n q ≤ n ∧ (q < n → q < t_e tp n q) := by
  unfold t_e
  by_cases h1 : q < n
  · rw [if_pos h1]
    by_cases h2 : t_so (tp q) = 0
    · rw [if_pos h2]
      omega
    · rw [if_neg h2]
      have := t_r_le (tp := tp) (s := t_so (tp q)) _ (q + 1) rfl (show q + 1 ≤ n by omega)
      omega
  · rw [if_neg h1]
    omega
theorem t_nx_le {tp : Nat → Nat} {n q : Nat} (h : q ≤ n) : q ≤ t_nx tp n q ∧ t_nx tp n q ≤ n := by
  have h1 := t_e_le (tp := tp) h
  have h2 := t_q_le (tp := tp) _ (t_e tp n q) rfl h1.2.1
  exact ⟨by have := h2.1; unfold t_nx; omega, h2.2⟩
/-- what stands within a token -/
theorem t_r_in {tp : Nat → Nat} {n s : Nat} : ∀ f p, n - p = f → ∀ i, p ≤ i → i < t_r tp n s p → t_so (tp i) = s := by
  intro f
  induction f with
  | zero =>
    intro p hf i h1 h2
    rw [t_r_n (fun z => by omega)] at h2
    omega
  | succ f ih =>
    intro p hf i h1 h2
    by_cases h : p < n ∧ t_so (tp p) = s
    · rw [t_r_y h.1 h.2] at h2
      by_cases hi : i = p
      · rw [hi]; exact h.2
      · exact ih (p + 1) (by omega) i (by omega) h2
    · rw [t_r_n h] at h2
      omega
theorem t_e_in {tp : Nat → Nat} {n q : Nat} (h : q < n) (h0 : ¬ t_so (tp q) = 0) : ∀ i, q ≤ i → i < t_e tp n q → t_so (tp i) = t_so (tp q) := by
  intro i h1 h2
  unfold t_e at h2
  rw [if_pos h, if_neg h0] at h2
  by_cases hi : i = q
  · rw [hi]
  · exact t_r_in _ (q + 1) rfl i (by omega) h2
theorem t_fig {b : Nat} (h : t_so b = 2) : 48 ≤ b ∧ b ≤ 57 := by
  unfold t_so at h
  split at h
  · omega
  · split at h
    next h2 => exact h2
    next => omega
theorem t_va_le {tp : Nat → Nat} {q : Nat} : ∀ k, k ≤ 4 → (∀ i, i < k → tp (q + i) ≤ 57 ∧ 48 ≤ tp (q + i)) → t_va tp q k < 10 ^ k := by
  intro k
  induction k with
  | zero => intro _ _; show 0 < 10 ^ 0; decide
  | succ k ih =>
    intro hk h
    have h1 := ih (by omega) (fun i hi => h i (by omega))
    have h2 := h k (by omega)
    show 10 * t_va tp q k + tp (q + k) - 48 < 10 ^ (k + 1)
    rw [Nat.pow_succ]
    omega
/-- the sort of a token, as the class has it -/
def t_k (tp : Nat → Nat) (n q : Nat) : Nat := if q < n then (if t_so (tp q) = 1 then 1 else if t_so (tp q) = 2 then (if t_e tp n q - q ≤ 3 then 2 else 4) else if tp q = 59 then 3 else 4) else 0
def t_C (S : x_M) (tp : Nat → Nat) (n : Nat) : Prop := S 10 1 = nI n ∧ ∀ i, i < n → S 11 i = nI (tp i)
def t_B (tp : Nat → Nat) (n : Nat) : Prop := n ≤ 400 ∧ ∀ i, i < n → tp i < 256
def t_TC (S : x_M) (tp : Nat → Nat) (n q : Nat) : Prop := S 10 3 = nI q ∧ S 10 4 = nI (t_e tp n q) ∧ S 10 2 = nI (t_k tp n q) ∧ (t_k tp n q = 2 → S 10 5 = nI (t_va tp q (t_e tp n q - q)))
/-- but the token stays all -/
def t_FA (S S' : x_M) : Prop := ∀ p k, ¬ (p = 10 ∧ 2 ≤ k) → S' p k = S p k
theorem t_C_c {S S' : x_M} {tp : Nat → Nat} {n : Nat} (h : ∀ p k, (p = 10 ∧ k = 1) ∨ p = 11 → S' p k = S p k) (H : t_C S tp n) : t_C S' tp n := ⟨by rw [h 10 1 (by omega)]; exact H.1, fun i hi => by rw [h 11 i (by omega)]; exact H.2 i hi⟩
section TOK
variable {xs : List Int32} {d : Nat} {S : x_M} {tp : Nat → Nat} {n : Nat}
theorem c_byteAt {i : Nat} (hC : t_C S tp n) (hn : n ≤ 400) (hi : i < n) : x_Cr xs (d + 1) 32 [.ref 10, .int (nI i)] S (nI (tp i)) := by
  refine x_Ci_of (by rw [ml_32]; rfl) (T_32_0 ?_)
  rw [if_neg (nI_pos (by omega)), hC.1, if_neg (nI_ge hi (by omega)), if_neg (show ¬ (400 : Int32) ≤ nI i from nI_ge (b := 400) (by omega) (by decide)), nI_clamp (by omega), hC.2 i hi]
  exact ⟨x_ib_n (by omega) (by decide), x_rt_i rfl⟩
theorem c_isBlank {b : Nat} (hb : b < 256) : x_Cr xs (d + 1) 33 [.int (nI b)] S (x_b (decide (b = 32 ∨ b = 10))) := by
  have k1 : nI b = 32 ↔ b = 32 := nI_eq (b := 32) (by omega) (by omega)
  have k2 : nI b = 10 ↔ b = 10 := nI_eq (b := 10) (by omega) (by omega)
  refine x_Ci_of (by rw [ml_33]; rfl) (T_33_0 ?_)
  by_cases h1 : b = 32
  · rw [if_pos (k1.mpr h1)]
    exact x_rt_i (x_b_t (decide_eq_true (Or.inl h1)))
  · rw [if_neg (fun z => h1 (k1.mp z))]
    by_cases h2 : b = 10
    · rw [if_pos (k2.mpr h2)]
      exact x_rt_i (x_b_t (decide_eq_true (Or.inr h2)))
    · rw [if_neg (fun z => h2 (k2.mp z))]
      exact x_rt_i (x_b_f (by rw [decide_eq_true_eq]; omega))
theorem c_isLetter {b : Nat} (hb : b < 256) : x_Cr xs (d + 1) 34 [.int (nI b)] S (x_b (decide (t_so b = 1))) := by
  have k1 : nI b < 97 ↔ b < 97 := nI_ltI (b := 97) (by omega) (by omega)
  have k2 : (122 : Int32) < nI b ↔ 122 < b := nI_ltI (a := 122) (by omega) (by omega)
  refine x_Ci_of (by rw [ml_34]; rfl) (T_34_0 ?_)
  by_cases h1 : b < 97
  · rw [if_pos (k1.mpr h1)]
    refine x_rt_i (x_b_f ?_)
    rw [decide_eq_true_eq]
    unfold t_so
    rw [if_neg (by omega)]
    split <;> omega
  · rw [if_neg (fun z => h1 (k1.mp z))]
    by_cases h2 : 122 < b
    · rw [if_pos (k2.mpr h2)]
      refine x_rt_i (x_b_f ?_)
      rw [decide_eq_true_eq]
      unfold t_so
      rw [if_neg (by omega)]
      split <;> omega
    · rw [if_neg (fun z => h2 (k2.mp z))]
      refine x_rt_i (x_b_t ?_)
      rw [decide_eq_true_eq]
      unfold t_so
      rw [if_pos (by omega)]
theorem c_isFigure {b : Nat} (hb : b < 256) : x_Cr xs (d + 1) 36 [.int (nI b)] S (x_b (decide (t_so b = 2))) := by
  have k1 : nI b < 48 ↔ b < 48 := nI_ltI (b := 48) (by omega) (by omega)
  have k2 : (57 : Int32) < nI b ↔ 57 < b := nI_ltI (a := 57) (by omega) (by omega)
  refine x_Ci_of (by rw [ml_36]; rfl) (T_36_0 ?_)
  by_cases h1 : b < 48
  · rw [if_pos (k1.mpr h1)]
    refine x_rt_i (x_b_f ?_)
    rw [decide_eq_true_eq]
    unfold t_so
    rw [if_neg (by omega), if_neg (by omega)]
    omega
  · rw [if_neg (fun z => h1 (k1.mp z))]
    by_cases h2 : 57 < b
    · rw [if_pos (k2.mpr h2)]
      refine x_rt_i (x_b_f ?_)
      rw [decide_eq_true_eq]
      unfold t_so
      rw [if_neg (show ¬ (48 ≤ b ∧ b ≤ 57) by omega)]
      split <;> omega
    · rw [if_neg (fun z => h2 (k2.mp z))]
      refine x_rt_i (x_b_t ?_)
      rw [decide_eq_true_eq]
      unfold t_so
      rw [if_neg (by omega), if_pos (by omega)]
theorem c_takeName {p : Nat} (hC : t_C S tp n) (hB : t_B tp n) (hp : p ≤ n) (h4 : S 10 4 = nI p) : x_Cv xs (d + 2) 35 [.ref 10] S (fun S' => S' 10 4 = nI (t_r tp n 1 p) ∧ S' 10 2 = 1 ∧ ∀ q k, ¬ (q = 10 ∧ (k = 2 ∨ k = 4)) → S' q k = S q k) := by
  have hn := hB.1
  refine x_Cv_of (by rw [ml_35]; rfl) (T_35_0 ?_)
  intro S1 hS1
  have loop : ∀ f q (U : x_M), n - q = f → q ≤ n → U 10 4 = nI q → U 10 2 = 1 → (∀ a k, ¬ (a = 10 ∧ (k = 2 ∨ k = 4)) → U a k = S a k) → x_E xs (d + 2) 35 5 [.ref 10] [] U (fun r S' => r = none ∧ S' 10 4 = nI (t_r tp n 1 q) ∧ S' 10 2 = 1 ∧ ∀ q k, ¬ (q = 10 ∧ (k = 2 ∨ k = 4)) → S' q k = S q k) := by
    intro f
    induction f with
    | zero =>
      intro q U hf hq u4 u2 hF
      refine T_35_5 ?_
      have hCU := t_C_c (fun p k hp => hF p k (by omega)) hC
      rw [hCU.1, u4, if_pos (nI_le (by omega) (by omega))]
      exact ⟨rfl, by rw [t_r_n (fun z => by omega)], u2, hF⟩
    | succ f ih =>
      intro q U hf hq u4 u2 hF
      refine T_35_5 ?_
      have hCU := t_C_c (fun p k hp => hF p k (by omega)) hC
      rw [hCU.1, u4, if_neg (nI_ge (by omega) (by omega))]
      refine x_rd (c_byteAt hCU hn (by omega)) (x_rd (c_isLetter (hB.2 q (by omega))) ?_)
      by_cases h : t_so (tp q) = 1
      · rw [if_neg (x_b_ne (decide_eq_true h)), u4, ← nI_succ]
        intro S3 hS3
        rw [t_r_y (by omega) h]
        exact ih (q + 1) S3 (by omega) (by omega) (by rw [hS3]; exact x_up_at _ _ _ _) (by rw [hS3, x_up_ne (by omega)]; exact u2) (fun a k z => by rw [hS3, x_up_ne (by omega)]; exact hF a k z)
      · rw [if_pos (x_b_0.mpr (by rw [decide_eq_true_eq]; exact h))]
        exact ⟨rfl, by rw [t_r_n (fun z => h z.2)]; exact u4, u2, hF⟩
  exact loop _ p S1 rfl hp (by rw [hS1, x_up_ne (by omega)]; exact h4) (by rw [hS1]; exact x_up_at _ _ _ _) (fun a k z => by rw [hS1, x_up_ne (by omega)])
theorem c_takeNum {q : Nat} (hC : t_C S tp n) (hB : t_B tp n) (hq : q < n) (hfig : t_so (tp q) = 2) (h3 : S 10 3 = nI q) (h4 : S 10 4 = nI q) : x_Cv xs (d + 2) 37 [.ref 10] S (fun S' => S' 10 4 = nI (t_r tp n 2 q) ∧ S' 10 2 = nI (if t_r tp n 2 q - q ≤ 3 then 2 else 4) ∧ (t_r tp n 2 q - q ≤ 3 → S' 10 5 = nI (t_va tp q (t_r tp n 2 q - q))) ∧ ∀ a k, ¬ (a = 10 ∧ (k = 2 ∨ k = 4 ∨ k = 5)) → S' a k = S a k) := by
  have hn := hB.1
  refine x_Cv_of (by rw [ml_37]; rfl) (T_37_0 ?_)
  intro S1 hS1
  have loop : ∀ f e (U : x_M), n - e = f → q ≤ e → e ≤ n → t_r tp n 2 e = t_r tp n 2 q → (∀ i, q ≤ i → i < e → t_so (tp i) = 2) → U 10 4 = nI e → U 10 5 = nI (t_va tp q (if e - q ≤ 3 then e - q else 3)) → (∀ a k, ¬ (a = 10 ∧ (k = 2 ∨ k = 4 ∨ k = 5)) → U a k = S a k) → x_E xs (d + 2) 37 5 [.ref 10] [] U (fun r S' => r = none ∧ S' 10 4 = nI (t_r tp n 2 q) ∧ S' 10 2 = nI (if t_r tp n 2 q - q ≤ 3 then 2 else 4) ∧ (t_r tp n 2 q - q ≤ 3 → S' 10 5 = nI (t_va tp q (t_r tp n 2 q - q))) ∧ ∀ a k, ¬ (a = 10 ∧ (k = 2 ∨ k = 4 ∨ k = 5)) → S' a k = S a k) := by
    intro f
    induction f with
    | zero =>
      intro e U hf hqe he hr hin u4 u5 hF
      refine T_37_5 ?_
      have hCU := t_C_c (fun p k hp => hF p k (by omega)) hC
      rw [hCU.1, u4, if_pos (nI_le (by omega) (by omega)), hF 10 3 (by omega), h3, nI_sub hqe]
      have hre : t_r tp n 2 q = e := by rw [← hr]; exact t_r_n (fun z => by omega)
      rw [hre]
      by_cases h3q : 3 < e - q
      · rw [if_pos (show (3 : Int32) < nI (e - q) from nI_lt (a := 3) h3q (by omega))]
        intro S2 hS2
        exact ⟨rfl, by rw [hS2, x_up_ne (by omega)]; exact u4, by rw [hS2, x_up_at, if_neg (by omega)]; rfl, fun z => by omega, fun a k z => by rw [hS2, x_up_ne (by omega)]; exact hF a k z⟩
      · rw [if_neg (show ¬ (3 : Int32) < nI (e - q) from nI_nlt (a := 3) (by omega) (by omega))]
        intro S2 hS2
        rw [if_pos (by omega)] at u5
        exact ⟨rfl, by rw [hS2, x_up_ne (by omega)]; exact u4, by rw [hS2, x_up_at, if_pos (by omega)]; rfl, fun z => by rw [hS2, x_up_ne (by omega)]; exact u5, fun a k z => by rw [hS2, x_up_ne (by omega)]; exact hF a k z⟩
    | succ f ih =>
      intro e U hf hqe he hr hin u4 u5 hF
      refine T_37_5 ?_
      have hCU := t_C_c (fun p k hp => hF p k (by omega)) hC
      rw [hCU.1, u4, if_neg (nI_ge (by omega) (by omega))]
      refine x_rd (c_byteAt hCU hn (by omega)) (x_rd (c_isFigure (hB.2 e (by omega))) ?_)
      rw [u4, hF 10 3 (by omega), h3, nI_sub hqe]
      by_cases h : t_so (tp e) = 2
      · rw [if_neg (x_b_ne (decide_eq_true h))]
        have hin2 : ∀ i, q ≤ i → i < e + 1 → t_so (tp i) = 2 := fun i h1 h2 => by
          by_cases hi : i = e
          · rw [hi]; exact h
          · exact hin i h1 (by omega)
        have hr2 : t_r tp n 2 (e + 1) = t_r tp n 2 q := by rw [← t_r_y (by omega) h]; exact hr
        by_cases h3q : 3 ≤ e - q
        · rw [if_pos (show (3 : Int32) ≤ nI (e - q) from nI_le (a := 3) h3q (by omega)), ← nI_succ]
          intro S7 hS7
          refine ih (e + 1) S7 (by omega) (by omega) (by omega) hr2 hin2 (by rw [hS7]; exact x_up_at _ _ _ _) ?_ (fun a k z => by rw [hS7, x_up_ne (by omega)]; exact hF a k z)
          rw [hS7, x_up_ne (by omega), u5, if_neg (show ¬ e + 1 - q ≤ 3 by omega)]
          by_cases h33 : e - q ≤ 3
          · rw [if_pos h33, show e - q = 3 by omega]
          · rw [if_neg h33]
        · rw [if_neg (show ¬ (3 : Int32) ≤ nI (e - q) from nI_ge (b := 3) (by omega) (by decide))]
          refine x_rd (c_byteAt hCU hn (by omega)) ?_
          intro S9 hS9
          rw [show S9 10 4 = nI e by rw [hS9, x_up_ne (by omega)]; exact u4, ← nI_succ]
          intro S10 hS10
          refine ih (e + 1) S10 (by omega) (by omega) (by omega) hr2 hin2 (by rw [hS10]; exact x_up_at _ _ _ _) ?_ (fun a k z => by rw [hS10, x_up_ne (by omega), hS9, x_up_ne (by omega)]; exact hF a k z)
          have hfe := t_fig h
          rw [hS10, x_up_ne (by omega), hS9, x_up_at, u5, if_pos (show e - q ≤ 3 by omega), if_pos (show e + 1 - q ≤ 3 by omega), show e + 1 - q = (e - q) + 1 by omega, show (10 : Int32) * nI (t_va tp q (e - q)) = nI (10 * t_va tp q (e - q)) from nI_mul 10 _, nI_add, show nI (10 * t_va tp q (e - q) + tp e) - 48 = nI (10 * t_va tp q (e - q) + tp e - 48) from nI_sub (b := 48) (by omega)]
          show _ = nI (10 * t_va tp q (e - q) + tp (q + (e - q)) - 48)
          rw [show q + (e - q) = e by omega]
      · rw [if_pos (x_b_0.mpr (by rw [decide_eq_true_eq]; exact h))]
        have hre : t_r tp n 2 q = e := by rw [← hr]; exact t_r_n (fun z => h z.2)
        rw [hre]
        by_cases h3q : 3 < e - q
        · rw [if_pos (show (3 : Int32) < nI (e - q) from nI_lt (a := 3) h3q (by omega))]
          intro S2 hS2
          exact ⟨rfl, by rw [hS2, x_up_ne (by omega)]; exact u4, by rw [hS2, x_up_at, if_neg (by omega)]; rfl, fun z => by omega, fun a k z => by rw [hS2, x_up_ne (by omega)]; exact hF a k z⟩
        · rw [if_neg (show ¬ (3 : Int32) < nI (e - q) from nI_nlt (a := 3) (by omega) (by omega))]
          intro S2 hS2
          rw [if_pos (by omega)] at u5
          exact ⟨rfl, by rw [hS2, x_up_ne (by omega)]; exact u4, by rw [hS2, x_up_at, if_pos (by omega)]; rfl, fun z => by rw [hS2, x_up_ne (by omega)]; exact u5, fun a k z => by rw [hS2, x_up_ne (by omega)]; exact hF a k z⟩
  refine loop _ q S1 rfl (Nat.le_refl _) (by omega) rfl (fun i h1 h2 => by omega) (by rw [hS1, x_up_ne (by omega)]; exact h4) ?_ (fun a k z => by rw [hS1, x_up_ne (by omega)])
  rw [hS1, x_up_at, Nat.sub_self, if_pos (by omega)]
  rfl
theorem c_advance {p : Nat} (hC : t_C S tp n) (hB : t_B tp n) (hp : p ≤ n) (h4 : S 10 4 = nI p) : x_Cv xs (d + 3) 31 [.ref 10] S (fun S' => t_TC S' tp n (t_q tp n p) ∧ t_FA S S') := by
  have hn := hB.1
  refine x_Cv_of (by rw [ml_31]; rfl) (T_31_0 ?_)
  intro S1 hS1
  have tail : ∀ q (U : x_M), q ≤ n → U 10 3 = nI q → (∀ a k, ¬ (a = 10 ∧ k = 3) → U a k = S a k) → x_E xs (d + 3) 31 46 [.ref 10] [] U (fun r S' => r = none ∧ t_TC S' tp n q ∧ t_FA S S') := by
    intro q U hq u3 hF
    refine T_31_46 ?_
    rw [u3]
    intro V hV
    have hF1 : ∀ a k, ¬ (a = 10 ∧ (k = 3 ∨ k = 4)) → V a k = S a k := fun a k z => by rw [hV, x_up_ne (by omega)]; exact hF a k (by omega)
    have v3 : V 10 3 = nI q := by rw [hV, x_up_ne (by omega)]; exact u3
    have v4 : V 10 4 = nI q := by rw [hV]; exact x_up_at _ _ _ _
    have hCV := t_C_c (fun p k hp => hF1 p k (by omega)) hC
    rw [v3, hCV.1]
    by_cases hqn : q < n
    case neg =>
      rw [if_neg (nI_nlt (by omega) (by omega))]
      intro W hW
      refine ⟨rfl, ⟨by rw [hW, x_up_ne (by omega)]; exact v3, ?_, ?_, ?_⟩, fun a k z => by rw [hW, x_up_ne (by omega)]; exact hF1 a k (by omega)⟩
      · rw [hW, x_up_ne (by omega), v4]
        unfold t_e
        rw [if_neg hqn]
      · rw [hW, x_up_at]
        unfold t_k
        rw [if_neg hqn]
        rfl
      · intro z
        unfold t_k at z
        rw [if_neg hqn] at z
        omega
    case pos =>
    rw [if_pos (nI_lt hqn (by omega))]
    have hb := hB.2 q hqn
    refine x_rd (c_byteAt hCV hn hqn) (x_rd (c_isLetter hb) ?_)
    by_cases s1 : t_so (tp q) = 1
    · rw [if_neg (x_b_ne (decide_eq_true s1))]
      refine ⟨_, c_takeName hCV hB hq v4, ?_⟩
      rintro W ⟨w4, w2, wF⟩
      have ee : t_e tp n q = t_r tp n 1 q := by
        unfold t_e
        rw [if_pos hqn, if_neg (by omega), s1, ← t_r_y hqn s1]
      refine ⟨rfl, ⟨by rw [wF 10 3 (by omega)]; exact v3, by rw [ee]; exact w4, ?_, ?_⟩, fun a k z => by rw [wF a k (by omega)]; exact hF1 a k (by omega)⟩
      · rw [w2]
        unfold t_k
        rw [if_pos hqn, if_pos s1]
        rfl
      · intro z
        unfold t_k at z
        rw [if_pos hqn, if_pos s1] at z
        omega
    · rw [if_pos (x_b_0.mpr (by rw [decide_eq_true_eq]; exact s1)), v3]
      refine x_rd (c_byteAt hCV hn hqn) (x_rd (c_isFigure hb) ?_)
      by_cases s2 : t_so (tp q) = 2
      · rw [if_neg (x_b_ne (decide_eq_true s2))]
        refine ⟨_, c_takeNum hCV hB hqn s2 v3 v4, ?_⟩
        rintro W ⟨w4, w2, w5, wF⟩
        have ee : t_e tp n q = t_r tp n 2 q := by
          unfold t_e
          rw [if_pos hqn, if_neg (by omega), s2, ← t_r_y hqn s2]
        have ek : t_k tp n q = if t_r tp n 2 q - q ≤ 3 then 2 else 4 := by
          unfold t_k
          rw [if_pos hqn, if_neg s1, if_pos s2, ee]
        refine ⟨rfl, ⟨by rw [wF 10 3 (by omega)]; exact v3, by rw [ee]; exact w4, by rw [ek]; exact w2, fun z => ?_⟩, fun a k z => by rw [wF a k (by omega)]; exact hF1 a k (by omega)⟩
        rw [ek] at z
        rw [ee]
        exact w5 (by split at z <;> omega)
      · have s0 : t_so (tp q) = 0 := by
          unfold t_so at s1 s2 ⊢
          split
          next h9 => rw [if_pos h9] at s1; omega
          next h9 =>
            rw [if_neg h9] at s2
            split
            next h8 => rw [if_pos h8] at s2; omega
            next => rfl
        rw [if_pos (x_b_0.mpr (by rw [decide_eq_true_eq]; exact s2)), v3]
        have k59 : nI (tp q) = 59 ↔ tp q = 59 := nI_eq (b := 59) (by omega) (by omega)
        refine x_rd (c_byteAt hCV hn hqn) ?_
        have ee : t_e tp n q = q + 1 := by
          unfold t_e
          rw [if_pos hqn, if_pos s0]
        have done : ∀ (z : Int32) (W2 W : x_M), W2 = x_up V 10 2 z → W = x_up W2 10 4 (W2 10 3 + 1) → z = nI (if tp q = 59 then 3 else 4) → (none : Option Value) = none ∧ t_TC W tp n q ∧ t_FA S W := by
          intro z W2 W h2 hW hz
          have w3 : W2 10 3 = nI q := by rw [h2, x_up_ne (by omega)]; exact v3
          have ek : t_k tp n q = if tp q = 59 then 3 else 4 := by
            unfold t_k
            rw [if_pos hqn, if_neg s1, if_neg s2]
          refine ⟨rfl, ⟨by rw [hW, x_up_ne (by omega)]; exact w3, by rw [hW, x_up_at, w3, ee, nI_succ], by rw [hW, x_up_ne (by omega), h2, x_up_at, ek]; exact hz, fun z => ?_⟩, fun a k z => by rw [hW, x_up_ne (by omega), h2, x_up_ne (by omega)]; exact hF1 a k (by omega)⟩
          rw [ek] at z
          split at z <;> omega
        by_cases h59 : tp q = 59
        · rw [if_pos (k59.mpr h59)]
          intro W2 h2 W hW
          exact done _ W2 W h2 hW (by rw [if_pos h59]; rfl)
        · rw [if_neg (fun z => h59 (k59.mp z))]
          intro W2 h2 W hW
          exact done _ W2 W h2 hW (by rw [if_neg h59]; rfl)
  have loop : ∀ f q (U : x_M), n - q = f → q ≤ n → U 10 3 = nI q → (∀ a k, ¬ (a = 10 ∧ k = 3) → U a k = S a k) → x_E xs (d + 3) 31 8 [.ref 10] [] U (fun r S' => r = none ∧ t_TC S' tp n (t_q tp n q) ∧ t_FA S S') := by
    intro f
    induction f with
    | zero =>
      intro q U hf hq u3 hF
      have hCU := t_C_c (fun p k hp => hF p k (by omega)) hC
      refine T_31_8 ?_
      rw [hCU.1, u3, if_pos (nI_le (by omega) (by omega)), t_q_n (fun z => by omega)]
      exact tail q U hq u3 hF
    | succ f ih =>
      intro q U hf hq u3 hF
      have hCU := t_C_c (fun p k hp => hF p k (by omega)) hC
      refine T_31_8 ?_
      rw [hCU.1, u3, if_neg (nI_ge (by omega) (by omega))]
      refine x_rd (c_byteAt hCU hn (by omega)) (x_rd (c_isBlank (hB.2 q (by omega))) ?_)
      by_cases h : tp q = 32 ∨ tp q = 10
      · rw [if_neg (x_b_ne (decide_eq_true h)), u3, ← nI_succ, t_q_y (by omega) h]
        intro S3 hS3
        exact ih (q + 1) S3 (by omega) (by omega) (by rw [hS3]; exact x_up_at _ _ _ _) (fun a k z => by rw [hS3, x_up_ne (by omega)]; exact hF a k z)
      · rw [if_pos (x_b_0.mpr (by rw [decide_eq_true_eq]; exact h)), t_q_n (fun z => h z.2)]
        exact tail q U hq u3 hF
  exact loop _ p S1 rfl hp (by rw [hS1, x_up_at]; exact h4) (fun a k z => by rw [hS1, x_up_ne (by omega)])
end TOK
