/-! THE TEXT, read by the reference -/
def t_M (S : x_M) (tp : Nat → Nat) (n : Nat) : Prop := S 56 2 = nI n ∧ ∀ i, i < n → S 58 i = nI (tp i)
def t_TM (S : x_M) (tp : Nat → Nat) (n q : Nat) : Prop := S 56 10 = nI (t_e tp n q) ∧ S 56 11 = nI q ∧ S 56 12 = nI (t_e tp n q)
def t_FT (S S' : x_M) : Prop := ∀ p k, ¬ (p = 56 ∧ 10 ≤ k ∧ k ≤ 12) → S' p k = S p k
/-- what is said of a fault -/
def t_rs (f : Nat) (r : Int32) (S S' : x_M) : Prop := (f = 0 ∧ r = 1 ∧ S' 56 3 = S 56 3) ∨ (¬ f = 0 ∧ r = 0 ∧ S' 56 3 = nI f)
theorem t_M_c {S S' : x_M} {tp : Nat → Nat} {n : Nat} (h : ∀ p k, (p = 56 ∧ k = 2) ∨ p = 58 → S' p k = S p k) (H : t_M S tp n) : t_M S' tp n := ⟨by rw [h 56 2 (by omega)]; exact H.1, fun i hi => by rw [h 58 i (by omega)]; exact H.2 i hi⟩
theorem t_M_FT {S S' : x_M} {tp : Nat → Nat} {n : Nat} (h : t_FT S S') (H : t_M S tp n) : t_M S' tp n := t_M_c (fun p k hp => h p k (by omega)) H
theorem t_TM_c {S S' : x_M} {tp : Nat → Nat} {n q : Nat} (h : ∀ k, 10 ≤ k → k ≤ 12 → S' 56 k = S 56 k) (H : t_TM S tp n q) : t_TM S' tp n q := ⟨by rw [h 10 (by omega) (by omega)]; exact H.1, by rw [h 11 (by omega) (by omega)]; exact H.2.1, by rw [h 12 (by omega) (by omega)]; exact H.2.2⟩
theorem t_so_le (b : Nat) : t_so b ≤ 2 := by
  unfold t_so
  split
  · omega
  · split <;> omega
section TOKM
variable {xs : List Int32} {d : Nat} {S : x_M} {tp : Nat → Nat} {n q : Nat}
theorem c_sort {b : Nat} (hb : b < 256) : x_Cr xs (d + 1) 112 [.int (nI b)] S (nI (t_so b)) := by
  have k1 : nI b < 97 ↔ b < 97 := nI_ltI (b := 97) (by omega) (by omega)
  have k2 : (122 : Int32) < nI b ↔ 122 < b := nI_ltI (a := 122) (by omega) (by omega)
  have k3 : nI b < 48 ↔ b < 48 := nI_ltI (b := 48) (by omega) (by omega)
  have k4 : (57 : Int32) < nI b ↔ 57 < b := nI_ltI (a := 57) (by omega) (by omega)
  refine x_Ci_of (by rw [ml_112]; rfl) (T_112_0 ?_)
  unfold t_so
  by_cases h1 : b < 97
  · rw [if_pos (k1.mpr h1), if_neg (show ¬ (97 ≤ b ∧ b ≤ 122) by omega)]
    by_cases h3 : b < 48
    · rw [if_pos (k3.mpr h3), if_neg (show ¬ (48 ≤ b ∧ b ≤ 57) by omega)]
      exact x_rt_i rfl
    · rw [if_neg (fun z => h3 (k3.mp z))]
      by_cases h4 : 57 < b
      · rw [if_pos (k4.mpr h4), if_neg (show ¬ (48 ≤ b ∧ b ≤ 57) by omega)]
        exact x_rt_i rfl
      · rw [if_neg (fun z => h4 (k4.mp z)), if_pos (show 48 ≤ b ∧ b ≤ 57 by omega)]
        exact x_rt_i rfl
  · rw [if_neg (fun z => h1 (k1.mp z))]
    by_cases h2 : 122 < b
    · rw [if_pos (k2.mpr h2), if_neg (show ¬ (97 ≤ b ∧ b ≤ 122) by omega), if_neg (show ¬ (48 ≤ b ∧ b ≤ 57) by omega), if_neg (fun z => by have := k3.mp z; omega), if_pos (k4.mpr (by omega))]
      exact x_rt_i rfl
    · rw [if_neg (fun z => h2 (k2.mp z)), if_pos (show 97 ≤ b ∧ b ≤ 122 by omega)]
      exact x_rt_i rfl
theorem c_token {p : Nat} (hM : t_M S tp n) (hB : t_B tp n) (hp : p ≤ n) (h10 : S 56 10 = nI p) : x_Cv xs (d + 2) 111 [.ref 56] S (fun S' => t_TM S' tp n (t_q tp n p) ∧ t_FT S S') := by
  have hn := hB.1
  refine x_Cv_of (L := [.ref 56]) (by rw [ml_111]; rfl) ?_
  have tail : ∀ q (U : x_M), q ≤ n → U 56 10 = nI q → (∀ a k, ¬ (a = 56 ∧ k = 10) → U a k = S a k) → x_E xs (d + 2) 111 52 [.ref 56] [] U (fun r S' => r = none ∧ t_TM S' tp n q ∧ t_FT S S') := by
    intro q U hq u10 hF
    -- the run of a token
    have run : ∀ f e (V : x_M), n - e = f → e ≤ n → q ≤ e → (q < n → q < e ∧ ((t_so (tp q) = 0 ∧ e = q + 1) ∨ (¬ t_so (tp q) = 0 ∧ t_r tp n (t_so (tp q)) e = t_r tp n (t_so (tp q)) (q + 1)))) → V 56 10 = nI e → V 56 11 = nI q → (∀ a k, ¬ (a = 56 ∧ (k = 10 ∨ k = 11)) → V a k = S a k) → x_E xs (d + 2) 111 85 [.ref 56] [] V (fun r S' => r = none ∧ t_TM S' tp n q ∧ t_FT S S') := by
      intro f
      induction f with
      | zero =>
        intro e V hf he hqe hin v10 v11 hFV
        have hMV := t_M_c (fun p k hp => hFV p k (by omega)) hM
        refine T_111_85 ?_
        rw [hMV.1, v10, if_pos (nI_le (by omega) (by omega))]
        intro W hW
        have ee : t_e tp n q = e := by
          unfold t_e
          by_cases hqn : q < n
          · rw [if_pos hqn]
            rcases (hin hqn).2 with ⟨s0, e1⟩ | ⟨s0, e1⟩
            · rw [if_pos s0, e1]
            · rw [if_neg s0, ← e1]
              exact t_r_n (fun z => by omega)
          · rw [if_neg hqn]
            omega
        exact ⟨rfl, ⟨by rw [hW, x_up_ne (by omega), ee]; exact v10, by rw [hW, x_up_ne (by omega)]; exact v11, by rw [hW, x_up_at, ee]⟩, fun a k z => by rw [hW, x_up_ne (by omega)]; exact hFV a k (by omega)⟩
      | succ f ih =>
        intro e V hf he hqe hin v10 v11 hFV
        have hMV := t_M_c (fun p k hp => hFV p k (by omega)) hM
        have hqn : q < n := by omega
        obtain ⟨hqe2, hor⟩ := hin hqn
        refine T_111_85 ?_
        rw [hMV.1, v10, if_neg (nI_ge (by omega) (by omega)), v11, nI_clamp (n := q) (by omega), hMV.2 q hqn]
        refine ⟨x_ib_n (by omega) (by decide), ?_⟩
        have hsl := t_so_le (tp q)
        refine x_rd (c_sort (hB.2 q hqn)) ?_
        rcases hor with ⟨s0, e1⟩ | ⟨s0, e1⟩
        · rw [if_pos (show nI (t_so (tp q)) ≤ 0 by rw [s0]; decide), v10]
          intro W hW
          have ee : t_e tp n q = e := by
            unfold t_e
            rw [if_pos hqn, if_pos s0, e1]
          exact ⟨rfl, ⟨by rw [hW, x_up_ne (by omega), ee]; exact v10, by rw [hW, x_up_ne (by omega)]; exact v11, by rw [hW, x_up_at, ee]⟩, fun a k z => by rw [hW, x_up_ne (by omega)]; exact hFV a k (by omega)⟩
        · rw [if_neg (nI_nle (by omega) (by omega)), v10, nI_clamp (n := e) (by omega), hMV.2 e (by omega)]
          refine ⟨x_ib_n (by omega) (by decide), ?_⟩
          refine x_rd (c_sort (hB.2 e (by omega))) ?_
          rw [v11, nI_clamp (n := q) (by omega), hMV.2 q hqn]
          refine ⟨x_ib_n (by omega) (by decide), ?_⟩
          refine x_rd (c_sort (hB.2 q hqn)) ?_
          have hse := t_so_le (tp e)
          by_cases hs : t_so (tp e) = t_so (tp q)
          · rw [if_pos (by rw [hs]), v10, ← nI_succ]
            intro W hW
            exact ih (e + 1) W (by omega) (by omega) (by omega) (fun _ => ⟨by omega, Or.inr ⟨s0, by rw [← t_r_y (by omega) hs]; exact e1⟩⟩) (by rw [hW]; exact x_up_at _ _ _ _) (by rw [hW, x_up_ne (by omega)]; exact v11) (fun a k z => by rw [hW, x_up_ne (by omega)]; exact hFV a k z)
          · rw [if_neg (fun z => hs ((nI_eq (by omega) (by omega)).mp z)), v10]
            intro W hW
            have ee : t_e tp n q = e := by
              unfold t_e
              rw [if_pos hqn, if_neg s0, ← e1]
              exact t_r_n (fun z => hs z.2)
            exact ⟨rfl, ⟨by rw [hW, x_up_ne (by omega), ee]; exact v10, by rw [hW, x_up_ne (by omega)]; exact v11, by rw [hW, x_up_at, ee]⟩, fun a k z => by rw [hW, x_up_ne (by omega)]; exact hFV a k (by omega)⟩
    refine T_111_52 ?_
    rw [u10]
    intro V1 h1
    have w10 : V1 56 10 = nI q := by rw [h1, x_up_ne (by omega)]; exact u10
    have w2 : V1 56 2 = nI n := by rw [h1, x_up_ne (by omega), hF 56 2 (by omega)]; exact hM.1
    rw [w10, w2]
    by_cases hqn : q < n
    · rw [if_neg (nI_ge hqn (by omega)), ← nI_succ]
      intro V3 h3
      refine run _ (q + 1) V3 rfl (by omega) (by omega) (fun _ => ⟨by omega, ?_⟩) (by rw [h3]; exact x_up_at _ _ _ _) (by rw [h3, x_up_ne (by omega), h1]; exact x_up_at _ _ _ _) (fun a k z => by rw [h3, x_up_ne (by omega), h1, x_up_ne (by omega)]; exact hF a k (by omega))
      by_cases s0 : t_so (tp q) = 0
      · exact Or.inl ⟨s0, rfl⟩
      · exact Or.inr ⟨s0, rfl⟩
    · rw [if_pos (nI_le (by omega) (by omega)), Int32.add_zero]
      intro V2 h2
      exact run _ q V2 rfl hq (Nat.le_refl _) (fun z => absurd z hqn) (by rw [h2]; exact x_up_at _ _ _ _) (by rw [h2, x_up_ne (by omega), h1]; exact x_up_at _ _ _ _) (fun a k z => by rw [h2, x_up_ne (by omega), h1, x_up_ne (by omega)]; exact hF a k (by omega))
  have loop : ∀ f q (U : x_M), n - q = f → q ≤ n → U 56 10 = nI q → (∀ a k, ¬ (a = 56 ∧ k = 10) → U a k = S a k) → x_E xs (d + 2) 111 0 [.ref 56] [] U (fun r S' => r = none ∧ t_TM S' tp n (t_q tp n q) ∧ t_FT S S') := by
    intro f
    induction f with
    | zero =>
      intro q U hf hq u10 hF
      have hMU := t_M_c (fun p k hp => hF p k (by omega)) hM
      refine T_111_0 ?_
      rw [hMU.1, u10, if_pos (nI_le (by omega) (by omega)), t_q_n (fun z => by omega)]
      exact tail q U hq u10 hF
    | succ f ih =>
      intro q U hf hq u10 hF
      have hMU := t_M_c (fun p k hp => hF p k (by omega)) hM
      have hqn : q < n := by omega
      have hb := hB.2 q hqn
      refine T_111_0 ?_
      rw [hMU.1, u10, if_neg (nI_ge hqn (by omega)), nI_clamp (n := q) (by omega), hMU.2 q hqn]
      have k1 : nI (tp q) = 32 ↔ tp q = 32 := nI_eq (b := 32) (by omega) (by omega)
      have k2 : nI (tp q) = 10 ↔ tp q = 10 := nI_eq (b := 10) (by omega) (by omega)
      have ib : x_ib (nI q) 400 := x_ib_n (by omega) (by decide)
      refine ⟨ib, ?_⟩
      have go : (tp q = 32 ∨ tp q = 10) → ∀ S1 : x_M, S1 = x_up U 56 10 (nI q + 1) → x_E xs (d + 1 + 1) 111 0 [.ref 56] [] S1 (fun r S' => r = none ∧ t_TM S' tp n (t_q tp n q) ∧ t_FT S S') := by
        intro hbl S1 h1
        rw [t_q_y hqn hbl]
        exact ih (q + 1) S1 (by omega) (by omega) (by rw [h1, x_up_at, nI_succ]) (fun a k z => by rw [h1, x_up_ne (by omega)]; exact hF a k z)
      by_cases b1 : tp q = 32
      · rw [if_pos (k1.mpr b1)]
        exact go (Or.inl b1)
      · rw [if_neg (fun z => b1 (k1.mp z))]
        refine ⟨ib, ?_⟩
        by_cases b2 : tp q = 10
        · rw [if_pos (k2.mpr b2)]
          exact go (Or.inr b2)
        · rw [if_neg (fun z => b2 (k2.mp z)), t_q_n (fun z => by omega)]
          exact tail q U hq u10 hF
  exact loop _ p S rfl hp h10 (fun _ _ _ => rfl)
theorem c_nextM (hM : t_M S tp n) (hB : t_B tp n) (hq : q ≤ n) (hT : t_TM S tp n q) : x_Cv xs (d + 2) 111 [.ref 56] S (fun S' => t_TM S' tp n (t_nx tp n q) ∧ t_FT S S') := c_token hM hB (t_e_le hq).2.1 hT.1
def t_wn (a : Nat) : Int32 := if a = 3 then 5638196 else 149539
theorem t_wn_at {a i : Nat} (ha : a = 3 ∨ a = 4) (hi : i < (t_w a).length) : (96 : Int32) + ((t_wn a >>> (((5 : Int32) * nI i) &&& 31)) &&& 31) = nI ((t_w a).getD i 0) := by
  rcases ha with rfl | rfl
  · have hi : i < 5 := hi
    rcases (by omega : i = 0 ∨ i = 1 ∨ i = 2 ∨ i = 3 ∨ i = 4) with rfl | rfl | rfl | rfl | rfl <;> decide
  · have hi : i < 4 := hi
    rcases (by omega : i = 0 ∨ i = 1 ∨ i = 2 ∨ i = 3) with rfl | rfl | rfl | rfl <;> decide
theorem c_isWordM {a : Nat} (ha : a = 3 ∨ a = 4) (hM : t_M S tp n) (hB : t_B tp n) (hq : q ≤ n) (hT : t_TM S tp n q) : x_Cr xs (d + 1) 114 [.ref 56, .int (t_wn a), .int (nI (t_w a).length)] S (x_b (t_wd tp n q (t_w a))) := by
  have hn := hB.1
  have he := t_e_le (tp := tp) hq
  have hlen : 4 ≤ (t_w a).length ∧ (t_w a).length ≤ 5 := by
    rcases ha with rfl | rfl
    · exact ⟨by decide, by decide⟩
    · exact ⟨by decide, by decide⟩
  have hlow : ∀ i, i < (t_w a).length → 97 ≤ (t_w a).getD i 0 ∧ (t_w a).getD i 0 ≤ 122 := by
    intro i hi
    rcases ha with rfl | rfl
    · have hi : i < 5 := hi
      rcases (by omega : i = 0 ∨ i = 1 ∨ i = 2 ∨ i = 3 ∨ i = 4) with rfl | rfl | rfl | rfl | rfl <;> decide
    · have hi : i < 4 := hi
      rcases (by omega : i = 0 ∨ i = 1 ∨ i = 2 ∨ i = 3) with rfl | rfl | rfl | rfl <;> decide
  obtain ⟨m10, m11, m12⟩ := hT
  refine x_Ci_of (by rw [ml_114]; rfl) (T_114_0 ?_)
  rw [m12, m11, nI_sub he.1]
  have stop : ∀ i : Nat, ¬ t_wd tp n q (t_w a) = true → x_E xs (d + 0 + 1) 114 22 [.ref 56, .int (t_wn a), .int (nI (t_w a).length), .int 0, .int (nI i)] [] S (fun r S' => ∃ v : Int32, r = some (.int v) ∧ v = x_b (t_wd tp n q (t_w a)) ∧ S' = S) := by
    intro i hno
    refine T_114_22 ?_
    rw [if_pos rfl]
    exact ⟨Or.inl rfl, x_rt_i (x_b_f hno)⟩
  by_cases hl : t_e tp n q - q = (t_w a).length
  case neg =>
    rw [if_neg (fun z => hl ((nI_eq (by omega) (by omega)).mp z))]
    exact stop 0 (fun z => by unfold t_wd at z; rw [decide_eq_true_eq] at z; exact hl z.1)
  case pos =>
  rw [if_pos (by rw [hl])]
  have loop : ∀ i k, k + i = (t_w a).length → (∀ j, j < k → tp (q + j) = (t_w a).getD j 0) → x_E xs (d + 1) 114 22 [.ref 56, .int (t_wn a), .int (nI (t_w a).length), .int 1, .int (nI k)] [] S (fun r S' => ∃ v : Int32, r = some (.int v) ∧ v = x_b (t_wd tp n q (t_w a)) ∧ S' = S) := by
    intro i
    induction i with
    | zero =>
      intro k hk hall
      refine T_114_22 ?_
      rw [if_neg (by decide), if_pos (nI_le (by omega) (by omega))]
      refine ⟨Or.inr rfl, x_rt_i (x_b_t ?_)⟩
      unfold t_wd
      rw [decide_eq_true_eq]
      exact ⟨hl, fun j hj => hall j (by omega)⟩
    | succ i ih =>
      intro k hk hall
      refine T_114_22 ?_
      rw [if_neg (by decide), if_neg (nI_ge (by omega) (by omega)), m11, nI_add, nI_clamp (by omega), hM.2 (q + k) (by omega), t_wn_at ha (by omega), ← nI_succ]
      refine ⟨x_ib_n (by omega) (by decide), ?_⟩
      have hb := hB.2 (q + k) (by omega)
      have hw := hlow k (by omega)
      by_cases h : tp (q + k) = (t_w a).getD k 0
      · rw [if_pos (by rw [h])]
        refine ih (k + 1) (by omega) (fun j hj => ?_)
        by_cases hjk : j = k
        · rw [hjk]; exact h
        · exact hall j (by omega)
      · rw [if_neg (fun z => h ((nI_eq (by omega) (by omega)).mp z))]
        exact stop (k + 1) (fun z => by unfold t_wd at z; rw [decide_eq_true_eq] at z; exact h (z.2 k (by omega)))
  exact loop (t_w a).length 0 (by omega) (fun j hj => by omega)
theorem c_isSign (hM : t_M S tp n) (hB : t_B tp n) (hq : q ≤ n) (hT : t_TM S tp n q) : x_Cr xs (d + 1) 117 [.ref 56] S (x_b (t_sg tp n q)) := by
  have hn := hB.1
  refine x_Ci_of (by rw [ml_117]; rfl) (T_117_0 ?_)
  rw [hM.1, hT.2.1]
  by_cases hqn : q < n
  · have hb := hB.2 q hqn
    rw [if_neg (nI_ge hqn (by omega)), nI_clamp (by omega), hM.2 q hqn]
    refine ⟨x_ib_n (by omega) (by decide), ?_⟩
    have k1 : nI (tp q) = 59 ↔ tp q = 59 := nI_eq (b := 59) (by omega) (by omega)
    by_cases h : tp q = 59
    · rw [if_pos (k1.mpr h)]
      exact x_rt_i (x_b_t (by unfold t_sg; rw [decide_eq_true_eq]; exact ⟨hqn, h⟩))
    · rw [if_neg (fun z => h (k1.mp z))]
      exact x_rt_i (x_b_f (fun z => by unfold t_sg at z; rw [decide_eq_true_eq] at z; exact h z.2))
  · rw [if_pos (nI_le (by omega) (by omega))]
    exact x_rt_i (x_b_f (fun z => by unfold t_sg at z; rw [decide_eq_true_eq] at z; exact hqn z.1))
/-- but the token, and what is said of a fault, stays all -/
def t_F3 (S S' : x_M) : Prop := ∀ p k, ¬ (p = 56 ∧ (k = 3 ∨ (10 ≤ k ∧ k ≤ 12))) → S' p k = S p k
theorem c_readsSign (hM : t_M S tp n) (hB : t_B tp n) (hq : q ≤ n) (hT : t_TM S tp n q) : x_Ci xs (d + 3) 116 [.ref 56] S (fun r S' => t_rs (t_sig tp n q).1 r S S' ∧ t_TM S' tp n (t_sig tp n q).2 ∧ t_F3 S S') := by
  refine x_Ci_of (by rw [ml_116]; rfl) (T_116_0 (x_rd (c_isSign hM hB hq hT) ?_))
  unfold t_sig
  by_cases h : t_sg tp n q = true
  · rw [if_neg (x_b_ne h), if_pos h]
    refine ⟨_, c_nextM hM hB hq hT, ?_⟩
    rintro S1 ⟨g1, g2⟩
    exact ⟨_, rfl, Or.inl ⟨rfl, rfl, g2 56 3 (by omega)⟩, g1, fun p k z => g2 p k (by omega)⟩
  · rw [if_pos (x_b_0.mpr h), if_neg h]
    intro S3 h3
    exact ⟨_, rfl, Or.inr ⟨Nat.succ_ne_zero 0, rfl, by rw [h3]; exact x_up_at _ _ _ _⟩, t_TM_c (fun k h1 h2 => by rw [h3, x_up_ne (by omega)]) hT, fun p k z => by rw [h3, x_up_ne (by omega)]⟩
theorem c_number {mx : Nat} (hM : t_M S tp n) (hB : t_B tp n) (hq : q ≤ n) (hT : t_TM S tp n q) (hmx : mx < 1000) : x_Ci xs (d + 3) 115 [.ref 56, .int (nI mx)] S (fun r S' => ((t_nf tp n q mx = 0 ∧ r = nI (t_vl tp n q) ∧ t_TM S' tp n (t_nx tp n q) ∧ S' 56 3 = S 56 3) ∨ (¬ t_nf tp n q mx = 0 ∧ r = -1000000 ∧ t_TM S' tp n q ∧ S' 56 3 = nI (t_nf tp n q mx))) ∧ t_F3 S S') := by
  have hn := hB.1
  have he := t_e_le (tp := tp) hq
  refine x_Ci_of (by rw [ml_115]; rfl) (T_115_0 ?_)
  rw [hT.2.1, hM.1]
  have bad : ∀ (f : Nat) (U : x_M), U = x_up S 56 3 (nI f) → t_nf tp n q mx = f → ¬ f = 0 → ∃ v : Int32, some (Value.int (-1000000)) = some (.int v) ∧ ((t_nf tp n q mx = 0 ∧ v = nI (t_vl tp n q) ∧ t_TM U tp n (t_nx tp n q) ∧ U 56 3 = S 56 3) ∨ (¬ t_nf tp n q mx = 0 ∧ v = -1000000 ∧ t_TM U tp n q ∧ U 56 3 = nI (t_nf tp n q mx))) ∧ t_F3 S U := by
    intro f U hU hf h0
    exact ⟨_, rfl, Or.inr ⟨by rw [hf]; exact h0, rfl, t_TM_c (fun k h1 h2 => by rw [hU, x_up_ne (by omega)]) hT, by rw [hU, x_up_at, hf]⟩, fun p k z => by rw [hU, x_up_ne (by omega)]⟩
  by_cases hqn : q < n
  case neg =>
    rw [if_pos (by rw [show q = n by omega])]
    intro S1 h1
    refine bad 1 S1 h1 ?_ (by omega)
    unfold t_nf
    rw [if_neg (fun z => by have := (t_k_num z).1; omega)]
  case pos =>
  rw [if_neg (fun z => by have := (nI_eq (by omega) (by omega)).mp z; omega), nI_clamp (by omega), hM.2 q hqn]
  refine ⟨x_ib_n (by omega) (by decide), ?_⟩
  refine x_rd (c_sort (hB.2 q hqn)) ?_
  have hsl := t_so_le (tp q)
  by_cases hs : t_so (tp q) = 2
  case neg =>
    rw [if_neg (show ¬ nI (t_so (tp q)) = 2 from fun z => hs ((nI_eq (b := 2) (by omega) (by omega)).mp z))]
    intro S1 h1
    refine bad 1 S1 h1 ?_ (by omega)
    unfold t_nf
    rw [if_neg (fun z => hs (t_k_num z).2.1)]
  case pos =>
  rw [if_pos (by rw [hs]; rfl), hT.2.1]
  have e2 : t_k tp n q = 2 ↔ t_e tp n q - q ≤ 3 := by
    unfold t_k
    rw [if_pos hqn, if_neg (by omega), if_pos hs]
    split <;> omega
  have fig : ∀ i, q ≤ i → i < t_e tp n q → 48 ≤ tp i ∧ tp i ≤ 57 := fun i h1 h2 => t_fig ((t_e_in hqn (by omega) i h1 h2).trans hs)
  -- behind the figures
  have fin : ∀ (v i : Nat), (t_e tp n q - q ≤ 3 → v = t_va tp q (t_e tp n q - q)) → v < 2 ^ 31 → x_E xs (d + 2 + 1) 115 81 [.ref 56, .int (nI mx), .int (nI v), .int (nI i)] [] S (fun r S' => ∃ w : Int32, r = some (.int w) ∧ ((t_nf tp n q mx = 0 ∧ w = nI (t_vl tp n q) ∧ t_TM S' tp n (t_nx tp n q) ∧ S' 56 3 = S 56 3) ∨ (¬ t_nf tp n q mx = 0 ∧ w = -1000000 ∧ t_TM S' tp n q ∧ S' 56 3 = nI (t_nf tp n q mx))) ∧ t_F3 S S') := by
    intro v i hv hvl
    refine T_115_81 ?_
    rw [hT.2.2, hT.2.1, nI_sub he.1]
    by_cases h3 : 3 < t_e tp n q - q
    · rw [if_pos (show (3 : Int32) < nI (t_e tp n q - q) from nI_lt (a := 3) h3 (by omega)), if_neg (show ¬ nI (t_e tp n q - q) ≤ 3 from nI_ge (a := 3) h3 (by omega))]
      intro S2 h2
      refine bad 1 S2 h2 ?_ (by omega)
      unfold t_nf
      rw [if_neg (fun z => by have := e2.mp z; omega)]
    · rw [if_neg (show ¬ (3 : Int32) < nI (t_e tp n q - q) from nI_nlt (a := 3) (by omega) (by omega))]
      have hk := e2.mpr (by omega)
      have hveq := hv (by omega)
      have enf : t_nf tp n q mx = if v ≤ mx then 0 else 2 := by
        unfold t_nf
        rw [if_pos hk, hveq]
      by_cases hle : v ≤ mx
      · rw [if_pos (nI_le hle (by omega))]
        rw [if_pos hle] at enf
        refine ⟨_, c_nextM hM hB hq hT, ?_⟩
        rintro S3 ⟨g1, g2⟩
        exact ⟨_, rfl, Or.inl ⟨enf, by rw [hveq]; rfl, g1, g2 56 3 (by omega)⟩, fun p k z => g2 p k (by omega)⟩
      · rw [if_neg (nI_ge (by omega) (by omega)), if_pos (show nI (t_e tp n q - q) ≤ 3 from nI_le (b := 3) (by omega) (by omega))]
        rw [if_neg hle] at enf
        intro S4 h4
        exact bad 2 S4 h4 enf (by omega)
  have loop : ∀ f k, k + f = 4 → q + k ≤ t_e tp n q → x_E xs (d + 2 + 1) 115 42 [.ref 56, .int (nI mx), .int (nI (t_va tp q k)), .int (nI (q + k))] [] S (fun r S' => ∃ w : Int32, r = some (.int w) ∧ ((t_nf tp n q mx = 0 ∧ w = nI (t_vl tp n q) ∧ t_TM S' tp n (t_nx tp n q) ∧ S' 56 3 = S 56 3) ∨ (¬ t_nf tp n q mx = 0 ∧ w = -1000000 ∧ t_TM S' tp n q ∧ S' 56 3 = nI (t_nf tp n q mx))) ∧ t_F3 S S') := by
    intro f
    induction f with
    | zero =>
      intro k hk hke
      have hvb := t_va_le (tp := tp) (q := q) k (by omega) (fun i hi => by have := fig (q + i) (by omega) (by omega); omega)
      have h104 : 10 ^ k ≤ 10 ^ 4 := Nat.pow_le_pow_right (by omega) (by omega)
      refine T_115_42 ?_
      rw [hT.2.2, hT.2.1, show nI q + 4 = nI (q + 4) from nI_add q 4]
      by_cases hend : t_e tp n q ≤ q + k
      · rw [if_pos (nI_le hend (by omega))]
        exact fin _ _ (fun z => by omega) (by omega)
      · rw [if_neg (nI_ge (by omega) (by omega)), if_pos (nI_le (by omega) (by omega))]
        exact fin _ _ (fun z => by omega) (by omega)
    | succ f ih =>
      intro k hk hke
      have hvb := t_va_le (tp := tp) (q := q) k (by omega) (fun i hi => by have := fig (q + i) (by omega) (by omega); omega)
      have h104 : 10 ^ k ≤ 10 ^ 4 := Nat.pow_le_pow_right (by omega) (by omega)
      refine T_115_42 ?_
      rw [hT.2.2, hT.2.1, show nI q + 4 = nI (q + 4) from nI_add q 4]
      by_cases hend : t_e tp n q ≤ q + k
      · rw [if_pos (nI_le hend (by omega))]
        exact fin _ _ (fun z => by rw [show t_e tp n q - q = k by omega]) (by omega)
      · rw [if_neg (nI_ge (by omega) (by omega)), if_neg (nI_ge (by omega) (by omega)), nI_clamp (n := q + k) (by omega), hM.2 (q + k) (by omega), ← nI_succ]
        refine ⟨x_ib_n (by omega) (by decide), ?_⟩
        have hfk := fig (q + k) (by omega) (by omega)
        have hi := ih (k + 1) (by omega) (by omega)
        rw [show (10 : Int32) * nI (t_va tp q k) = nI (10 * t_va tp q k) from nI_mul 10 _, nI_add, show nI (10 * t_va tp q k + tp (q + k)) - 48 = nI (10 * t_va tp q k + tp (q + k) - 48) from nI_sub (b := 48) (by omega)]
        exact hi
  exact loop 4 0 rfl (by omega)
end TOKM
