section GAMEM
variable {xs : List Int32} {d : Nat} {S : x_M} {tp : Nat → Nat} {n : Nat}
theorem t_card_dc {m q : Nat} (h : (t_card tp n m q).1 = 0) : t_dc tp n q ≤ 1 := by
  unfold t_card at h
  by_cases h1 : t_wd tp n q (t_w 4) = true
  · rw [if_pos h1] at h
    by_cases h2 : m = 14
    · rw [if_pos h2] at h
      exact absurd (show (3 : Nat) = 0 from h) (by decide)
    · rw [if_neg h2] at h
      by_cases h3 : t_ho tp n (t_nx tp n q) = true
      · rw [if_pos h3] at h
        by_cases h4 : t_nf tp n (t_nx tp n (t_nx tp n q)) 1 = 0
        · exact (t_nf_0 h4).2
        · rw [if_neg h4] at h
          exact absurd h h4
      · rw [if_neg h3] at h
        exact absurd (show (1 : Nat) = 0 from h) (by decide)
  · rw [if_neg h1] at h
    exact absurd (show (1 : Nat) = 0 from h) (by decide)
theorem t_cards_dc {q1 : Nat} : ∀ f m, (t_cards tp n f m (t_qc tp n q1 m)).1 = 0 → ∀ c, m ≤ c → c < (t_cards tp n f m (t_qc tp n q1 m)).2.2 → t_dc tp n (t_qc tp n q1 c) ≤ 1 := by
  intro f
  induction f with
  | zero => intro m h; exact absurd (show (1 : Nat) = 0 from h) (by decide)
  | succ f ih =>
    intro m h c hc hlt
    have hstep : t_cards tp n (f + 1) m (t_qc tp n q1 m) = if 0 < m ∧ n ≤ t_qc tp n q1 m then (0, t_qc tp n q1 m, m) else if (t_card tp n m (t_qc tp n q1 m)).1 = 0 then t_cards tp n f (m + 1) (t_card tp n m (t_qc tp n q1 m)).2 else ((t_card tp n m (t_qc tp n q1 m)).1, (t_card tp n m (t_qc tp n q1 m)).2, m) := rfl
    rw [hstep] at h hlt
    by_cases h1 : 0 < m ∧ n ≤ t_qc tp n q1 m
    · rw [if_pos h1] at hlt
      have hlt : c < m := hlt
      omega
    · rw [if_neg h1] at h hlt
      by_cases h2 : (t_card tp n m (t_qc tp n q1 m)).1 = 0
      · rw [if_pos h2] at h hlt
        by_cases hcm : c = m
        · rw [hcm]
          exact t_card_dc h2
        · exact ih (m + 1) h c (by omega) hlt
      · rw [if_neg h2] at h
        exact absurd h h2
theorem t_game_dc (h : (t_game tp n).1 = 0) : ∀ c, c < (t_game tp n).2.2 → t_dc tp n (t_qc tp n (t_tabq tp n) c) ≤ 1 := by
  unfold t_game at h ⊢
  by_cases hz : (t_tab tp n (t_q tp n 0)).1 = 0
  · rw [if_pos hz] at h ⊢
    intro c hc
    exact t_cards_dc 15 0 h c (by omega) hc
  · rw [if_neg hz] at h
    exact absurd h hz
set_option maxHeartbeats 2000000 in
theorem c_gameM (hM : t_M S tp n) (hB : t_B tp n) (hm : (t_game tp n).1 = 0 → 1 ≤ (t_game tp n).2.2 ∧ (t_game tp n).2.2 ≤ 14) : x_Ci xs (d + 6) 109 [.ref 56] S (fun r S' => S' 56 2 = 0 ∧ (∀ p k, ¬ (p = 56 ∧ (k = 2 ∨ k = 3 ∨ (10 ≤ k ∧ k ≤ 12) ∨ k = 16)) → ¬ (63 ≤ p ∧ p ≤ 66) → ¬ (p = 57 ∧ k < 33) → S' p k = S p k) ∧
    (((t_game tp n).1 = 0 ∧ r = nI (t_game tp n).2.2 ∧ S' 56 3 = S 56 3 ∧ S' 57 0 = 1 ∧ S' 57 1 = nI (t_game tp n).2.2 ∧ x_GM S' 0 (t_A tp n) ∧ (∀ k, k < 9 → S' 57 (16 + k) = nI (t_tv tp n k)) ∧ (∀ c, c < (t_game tp n).2.2 → S' 57 (2 + c) = nI (t_hol tp n c)) ∧ ∀ c w, c < (t_game tp n).2.2 → w < 8 → S' 66 (8 * c + w) = x_lieF (nI (t_hol tp n c)) w) ∨
     (¬ (t_game tp n).1 = 0 ∧ r = (-1000100) - nI (t_game tp n).2.1 ∧ S' 56 3 = nI (t_game tp n).1 ∧ ∀ p k, p = 57 ∨ p = 66 → S' p k = S p k))) := by
  refine x_Ci_of (by rw [ml_109]; rfl) (T_109_0 ?_)
  refine ⟨_, c_readsAll hM hB, ?_⟩
  rintro v S1 ⟨hrs, h11, hok, hF⟩
  rw [h11]
  intro S2 hS2
  by_cases hz : (t_game tp n).1 = 0
  case neg =>
    obtain ⟨rfl, h3⟩ := t_rs_0 hrs hz
    rw [if_pos rfl]
    refine ⟨_, rfl, by rw [hS2]; exact x_up_at _ _ _ _, fun p k z1 z2 z3 => by rw [hS2, x_up_ne (by omega)]; exact hF p k (by omega) (by omega), Or.inr ⟨hz, rfl, by rw [hS2, x_up_ne (by omega)]; exact h3, fun p k z => ?_⟩⟩
    rw [hS2, x_up_ne (by omega)]
    exact hF p k (by omega) (by omega)
  case pos =>
  obtain ⟨rfl, h3f⟩ := t_rs_1 hrs hz
  obtain ⟨hR, htab⟩ := hok hz
  obtain ⟨hm1, hm14⟩ := hm hz
  have hdc := t_game_dc hz
  have hA0 : x_Al0 (t_A tp n) = t_lf (fun c => t_dc tp n (t_qc tp n (t_tabq tp n) c)) 0 (t_game tp n).2.2 := rfl
  have hA1 : x_Al1 (t_A tp n) = t_lf (fun c => t_dc tp n (t_qc tp n (t_tabq tp n) c)) 1 (t_game tp n).2.2 := rfl
  have hAh : x_Ah (t_A tp n) = if x_Al0 (t_A tp n) = 0 then 1 else 0 := rfl
  have hAr : x_Ash (t_A tp n) = 511 ∧ x_Aly (t_A tp n) = 0 ∧ x_Atk (t_A tp n) = 0 ∧ x_Ag0 (t_A tp n) = 0 ∧ x_Ag1 (t_A tp n) = 0 := ⟨rfl, rfl, rfl, rfl, rfl⟩
  have hhb : ∀ c, t_hol tp n c < 512 := fun c => t_hs_lt (tp := tp) 9
  have hhc : ∀ c, t_hc tp n (t_qc tp n (t_tabq tp n) c) = t_hol tp n c := fun c => rfl
  generalize t_A tp n = A at hA0 hA1 hAh hAr ⊢
  generalize hdcd : (fun c => t_dc tp n (t_qc tp n (t_tabq tp n) c)) = dc at hA0 hA1
  have hdc2 : ∀ c, t_dc tp n (t_qc tp n (t_tabq tp n) c) = dc c := fun c => by rw [← hdcd]
  generalize hmd : (t_game tp n).2.2 = m at *
  rw [if_neg (by decide)]
  intro S3 hS3
  rw [show S3 56 16 = nI m by rw [hS3, x_up_ne (by omega), hS2, x_up_ne (by omega)]; exact hR.1]
  intro S4 hS4 S5 hS5 S6 hS6
  have f6 : ∀ p k, ¬ (p = 56 ∧ k = 2) → ¬ (p = 57 ∧ (k = 0 ∨ k = 1 ∨ k = 30 ∨ k = 31)) → S6 p k = S1 p k := fun p k z1 z2 => by rw [hS6, x_up_ne (by omega), hS5, x_up_ne (by omega), hS4, x_up_ne (by omega), hS3, x_up_ne (by omega), hS2, x_up_ne (by omega)]
  have g0 : S6 57 0 = 1 := by rw [hS6, x_up_ne (by omega), hS5, x_up_ne (by omega), hS4, x_up_ne (by omega), hS3]; exact x_up_at _ _ _ _
  have g1 : S6 57 1 = nI m := by rw [hS6, x_up_ne (by omega), hS5, x_up_ne (by omega), hS4]; exact x_up_at _ _ _ _
  have g30 : S6 57 30 = nI 0 := by rw [hS6, x_up_ne (by omega), hS5]; exact x_up_at _ _ _ _
  have g31 : S6 57 31 = nI 0 := by rw [hS6]; exact x_up_at _ _ _ _
  have g2 : S6 56 2 = 0 := by rw [hS6, x_up_ne (by omega), hS5, x_up_ne (by omega), hS4, x_up_ne (by omega), hS3, x_up_ne (by omega), hS2]; exact x_up_at _ _ _ _
  generalize hQd : (fun (r : Option Value) (S' : x_M) => ∃ v : Int32, r = some (.int v) ∧ S' 56 2 = 0 ∧ (∀ p k, ¬ (p = 56 ∧ (k = 2 ∨ k = 3 ∨ (10 ≤ k ∧ k ≤ 12) ∨ k = 16)) → ¬ (63 ≤ p ∧ p ≤ 66) → ¬ (p = 57 ∧ k < 33) → S' p k = S p k) ∧
    (((t_game tp n).1 = 0 ∧ v = nI m ∧ S' 56 3 = S 56 3 ∧ S' 57 0 = 1 ∧ S' 57 1 = nI m ∧ x_GM S' 0 A ∧ (∀ k, k < 9 → S' 57 (16 + k) = nI (t_tv tp n k)) ∧ (∀ c, c < m → S' 57 (2 + c) = nI (t_hol tp n c)) ∧ ∀ c w, c < m → w < 8 → S' 66 (8 * c + w) = x_lieF (nI (t_hol tp n c)) w) ∨
     (¬ (t_game tp n).1 = 0 ∧ v = (-1000100) - nI (t_game tp n).2.1 ∧ S' 56 3 = nI (t_game tp n).1 ∧ ∀ p k, p = 57 ∨ p = 66 → S' p k = S p k))) = Q
  have hl0 : t_lf dc 0 m < 2 ^ 31 := Nat.lt_of_lt_of_le (t_lf_lt _) (Nat.pow_le_pow_right (by omega) (by omega))
  have hl1 : t_lf dc 1 m < 2 ^ 31 := Nat.lt_of_lt_of_le (t_lf_lt _) (Nat.pow_le_pow_right (by omega) (by omega))
  -- the end
  have last : ∀ (U : x_M) (a1 a2 a3 : Int32) (hh : Nat), hh = x_Ah A → U 56 2 = 0 → U 57 0 = 1 → U 57 1 = nI m → U 57 25 = 511 → U 57 26 = 0 → U 57 30 = nI (t_lf dc 0 m) → U 57 31 = nI (t_lf dc 1 m) → (∀ k, k < 9 → U 57 (16 + k) = nI (t_tv tp n k)) → (∀ c, c < m → U 57 (2 + c) = nI (t_hol tp n c)) → (∀ p k, ¬ (p = 56 ∧ k = 2) → ¬ (p = 57 ∧ k < 33) → U p k = S1 p k) → x_E xs (d + 5 + 1) 109 175 [.ref 56, .int a1, .int a2, .int a3] [.int (nI hh), .int 27, .ref 57] U Q := by
    intro U a1 a2 a3 hh hhh u2 u0 u1 u25 u26 u30 u31 utab ucard uF
    refine T_109_175 ?_
    rw [show (27 : Int32).toNatClampNeg = 27 by decide]
    refine ⟨x_ib_n (k := 27) (by omega) (by decide), ?_⟩
    intro V1 h1 V2 h2 V3 h3 V4 h4
    have vF : ∀ p k, ¬ (p = 57 ∧ (k = 27 ∨ k = 28 ∨ k = 29 ∨ k = 32)) → V4 p k = U p k := fun p k z => by rw [h4, x_up_ne (by omega), h3, x_up_ne (by omega), h2, x_up_ne (by omega), h1, x_up_ne (by omega)]
    have v27 : V4 57 27 = nI hh := by rw [h4, x_up_ne (by omega), h3, x_up_ne (by omega), h2, x_up_ne (by omega), h1]; exact x_up_at _ _ _ _
    have v28 : V4 57 28 = 0 := by rw [h4, x_up_ne (by omega), h3, x_up_ne (by omega), h2]; exact x_up_at _ _ _ _
    have v29 : V4 57 29 = 0 := by rw [h4, x_up_ne (by omega), h3]; exact x_up_at _ _ _ _
    have v32 : V4 57 32 = 0 := by rw [h4]; exact x_up_at _ _ _ _
    have vc : ∀ c, c < m → V4 57 (2 + c) = nI (t_hol tp n c) := fun c hc => by rw [vF 57 _ (by omega)]; exact ucard c hc
    refine ⟨_, c_layTurned (n := m) (by rw [vF 57 1 (by omega)]; exact u1) hm14 (fun c hc => ⟨t_hol tp n c, hhb c, vc c hc⟩), ?_⟩
    rintro V5 ⟨w1, w2⟩
    have e57 : V5 57 = V4 57 := w2 57 (by omega)
    have e56 : V5 56 = V4 56 := w2 56 (by omega)
    rw [← hQd, e56, vF 56 16 (by omega), uF 56 16 (by omega) (by omega), hR.1]
    refine ⟨_, rfl, by rw [e56, vF 56 2 (by omega)]; exact u2, fun p k z1 z2 z3 => ?_, Or.inl ⟨hz, rfl, ?_, ?_, ?_, ⟨?_, ?_, ?_, ?_, ?_, ?_, ?_, ?_⟩, fun k hk => ?_, fun c hc => ?_, fun c w hc hw => ?_⟩⟩
    · rw [w2 p (by omega), vF p k (by omega), uF p k (by omega) z3]
      exact hF p k (by omega) (by omega)
    · rw [e56, vF 56 3 (by omega), uF 56 3 (by omega) (by omega)]; exact h3f
    · rw [e57, vF 57 0 (by omega)]; exact u0
    · rw [e57, vF 57 1 (by omega)]; exact u1
    · rw [e57, vF 57 25 (by omega), hAr.1]; exact u25
    · rw [e57, vF 57 26 (by omega), hAr.2.1]; exact u26
    · rw [e57, ← hhh]; exact v27
    · rw [e57, hAr.2.2.2.1]; exact v28
    · rw [e57, hAr.2.2.2.2]; exact v29
    · rw [e57, vF 57 30 (by omega), hA0]; exact u30
    · rw [e57, vF 57 31 (by omega), hA1]; exact u31
    · rw [e57, hAr.2.2.1]; exact v32
    · rw [e57, vF 57 _ (by omega)]; exact utab k hk
    · rw [e57]; exact vc c hc
    · rw [w1 c w hc hw, vc c hc]
  -- the table
  have tabl : ∀ i k (U : x_M) (a1 a2 : Int32), k + i = 9 → U 56 2 = 0 → U 57 0 = 1 → U 57 1 = nI m → U 57 30 = nI (t_lf dc 0 m) → U 57 31 = nI (t_lf dc 1 m) → (∀ j, j < k → U 57 (16 + j) = nI (t_tv tp n j)) → (∀ c, c < m → U 57 (2 + c) = nI (t_hol tp n c)) → (∀ p k, ¬ (p = 56 ∧ k = 2) → ¬ (p = 57 ∧ k < 33) → U p k = S1 p k) → x_E xs (d + 5 + 1) 109 109 [.ref 56, .int a1, .int a2, .int (nI k)] [] U Q := by
    intro i
    induction i with
    | zero =>
      intro k U a1 a2 hk u2 u0 u1 u30 u31 utab ucard uF
      refine T_109_109 ?_
      rw [if_pos (show (9 : Int32) ≤ nI k from nI_le (a := 9) (by omega) (by omega))]
      intro V1 h1 V2 h2
      have vF : ∀ p j, ¬ (p = 57 ∧ (j = 25 ∨ j = 26)) → V2 p j = U p j := fun p j z => by rw [h2, x_up_ne (by omega), h1, x_up_ne (by omega)]
      have v25 : V2 57 25 = 511 := by rw [h2, x_up_ne (by omega), h1]; exact x_up_at _ _ _ _
      have v26 : V2 57 26 = 0 := by rw [h2]; exact x_up_at _ _ _ _
      have go := fun (hh : Nat) (e : hh = x_Ah A) => last V2 a1 a2 (nI k) hh e (by rw [vF 56 2 (by omega)]; exact u2) (by rw [vF 57 0 (by omega)]; exact u0) (by rw [vF 57 1 (by omega)]; exact u1) v25 v26 (by rw [vF 57 30 (by omega)]; exact u30) (by rw [vF 57 31 (by omega)]; exact u31) (fun j hj => by rw [vF 57 _ (by omega)]; exact utab j (by omega)) (fun c hc => by rw [vF 57 _ (by omega)]; exact ucard c hc) (fun p j z1 z2 => by rw [vF p j (by omega)]; exact uF p j z1 z2)
      rw [vF 57 30 (by omega), u30]
      by_cases h0 : t_lf dc 0 m = 0
      · rw [if_pos ((nI_eq0 hl0).mpr h0)]
        exact go 1 (by rw [hAh, hA0, if_pos h0])
      · rw [if_neg (fun z => h0 ((nI_eq0 hl0).mp z))]
        exact go 0 (by rw [hAh, hA0, if_neg h0])
    | succ i ih =>
      intro k U a1 a2 hk u2 u0 u1 u30 u31 utab ucard uF
      refine T_109_109 ?_
      rw [if_neg (show ¬ (9 : Int32) ≤ nI k from nI_ge (b := 9) (by omega) (by decide)), show (16 : Int32) + nI k = nI (16 + k) from nI_add 16 k, nI_clamp (n := k) (by omega), nI_clamp (n := 16 + k) (by omega), uF 63 k (by omega) (by omega), htab k (by omega), ← nI_succ]
      refine ⟨x_ib_n (by omega) (by decide), x_ib_n (by omega) (by decide), ?_⟩
      intro V hV
      refine ih (k + 1) V a1 a2 (by omega) (by rw [hV, x_up_ne (by omega)]; exact u2) (by rw [hV, x_up_ne (by omega)]; exact u0) (by rw [hV, x_up_ne (by omega)]; exact u1) (by rw [hV, x_up_ne (by omega)]; exact u30) (by rw [hV, x_up_ne (by omega)]; exact u31) (fun j hj => ?_) (fun c hc => by rw [hV, x_up_ne (by omega)]; exact ucard c hc) (fun p j z1 z2 => by rw [hV, x_up_ne (by omega)]; exact uF p j z1 z2)
      rw [hV]
      by_cases hjk : j = k
      · rw [hjk]; exact x_up_at _ _ _ _
      · rw [x_up_ne (by omega)]
        exact utab j (by omega)
  -- the cards
  have cards : ∀ i c (U : x_M) (a1 a2 : Int32), c + i = m → U 56 2 = 0 → U 57 0 = 1 → U 57 1 = nI m → U 57 30 = nI (t_lf dc 0 c) → U 57 31 = nI (t_lf dc 1 c) → (∀ j, j < c → U 57 (2 + j) = nI (t_hol tp n j)) → (∀ p k, ¬ (p = 56 ∧ k = 2) → ¬ (p = 57 ∧ k < 33) → U p k = S1 p k) → x_E xs (d + 5 + 1) 109 59 [.ref 56, .int a1, .int a2, .int (nI c)] [] U Q := by
    intro i
    induction i with
    | zero =>
      intro c U a1 a2 hc u2 u0 u1 u30 u31 ucard uF
      have hc : c = m := by omega
      rw [hc] at u30 u31 ucard
      refine T_109_59 ?_
      rw [uF 56 16 (by omega) (by omega), hR.1, if_pos (nI_le (by omega) (by omega))]
      exact tabl 9 0 U a1 a2 rfl u2 u0 u1 u30 u31 (fun j hj => by omega) ucard uF
    | succ i ih =>
      intro c U a1 a2 hc u2 u0 u1 u30 u31 ucard uF
      have hR2 := hR.2 c (by omega)
      have hd1 := hdc c (by omega)
      rw [hdc2] at hd1 hR2
      have hlc0 : t_lf dc 0 c < 2 ^ 31 := Nat.lt_of_lt_of_le (t_lf_lt _) (Nat.pow_le_pow_right (by omega) (by omega))
      refine T_109_59 ?_
      rw [uF 56 16 (by omega) (by omega), hR.1, if_neg (nI_ge (by omega) (by omega)), show (2 : Int32) + nI c = nI (2 + c) from nI_add 2 c, nI_clamp (n := c) (by omega), nI_clamp (n := 2 + c) (by omega), uF 64 c (by omega) (by omega), hR2.1]
      have ib : x_ib (nI c) 14 := x_ib_n (by omega) (by decide)
      refine ⟨ib, x_ib_n (by omega) (by decide), ?_⟩
      intro V1 h1
      rw [show V1 65 c = nI (dc c) by rw [h1, x_up_ne (by omega), uF 65 c (by omega) (by omega)]; exact hR2.2, show (30 : Int32) + nI (dc c) = nI (30 + dc c) from nI_add 30 _, nI_clamp (n := 30 + dc c) (by omega)]
      have ib30 : x_ib (nI (30 + dc c)) 99 := x_ib_n (by omega) (by decide)
      refine ⟨ib, ib30, ib30, ?_⟩
      have v1h : V1 57 (30 + dc c) = nI (t_lf dc (dc c) c) := by
        rw [h1, x_up_ne (by omega)]
        rcases (by omega : dc c = 0 ∨ dc c = 1) with e | e
        · rw [e]; exact u30
        · rw [e]; exact u31
      rw [v1h, x_one_shl (by omega), nI_or, ← nI_succ]
      intro V2 h2
      refine ih (c + 1) V2 a1 a2 (by omega) (by rw [h2, x_up_ne (by omega), h1, x_up_ne (by omega)]; exact u2) (by rw [h2, x_up_ne (by omega), h1, x_up_ne (by omega)]; exact u0) (by rw [h2, x_up_ne (by omega), h1, x_up_ne (by omega)]; exact u1) ?_ ?_ (fun j hj => ?_) (fun p j z1 z2 => by rw [h2, x_up_ne (by omega), h1, x_up_ne (by omega)]; exact uF p j z1 z2)
      · show V2 57 30 = nI (t_lf dc 0 c ||| (if dc c = 0 then 2 ^ c else 0))
        rcases (by omega : dc c = 0 ∨ dc c = 1) with e | e
        · rw [if_pos e, h2, e]
          exact x_up_at _ _ _ _
        · rw [if_neg (by omega), h2, x_up_ne (by omega), h1, x_up_ne (by omega), Nat.or_zero]
          exact u30
      · show V2 57 31 = nI (t_lf dc 1 c ||| (if dc c = 1 then 2 ^ c else 0))
        rcases (by omega : dc c = 0 ∨ dc c = 1) with e | e
        · rw [if_neg (by omega), h2, x_up_ne (by omega), h1, x_up_ne (by omega), Nat.or_zero]
          exact u31
        · rw [if_pos e, h2, e]
          exact x_up_at _ _ _ _
      · rw [h2, x_up_ne (by omega), h1]
        by_cases hjc : j = c
        · rw [hjc, x_up_at, hhc]
        · rw [x_up_ne (by omega)]
          exact ucard j (by omega)
  exact cards m 0 S6 _ _ (by omega) g2 g0 g1 g30 g31 (fun j hj => by omega) (fun p k z1 z2 => f6 p k z1 (by omega))
end GAMEM
