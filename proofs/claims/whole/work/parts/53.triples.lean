/-! TRIPLES -/
def x_sht (L : Nat → Int32) (a b c : Nat) : Bool := decide (∃ v : Nat, v < 64 ∧ L (8 * a) &&& L (8 * b + v / 8) &&& L (8 * c + v % 8) = 0)
/-- what three loops, one within the other, come to: for whatever goes by these rules -/
def x_Tr (n : Nat) (a1 : Int32) (sh : Nat → Nat → Nat → Bool) (Q : Int32 → Prop) (E25 : Nat → Nat → Prop) (E41 : Nat → Nat → Nat → Prop) (E59 : Nat → Nat → Nat → Nat → Prop) : Prop :=
  (∀ k a, (if n ≤ a then (if a1 = -1 then Q (nI k) else Q (-1000000)) else E41 k a (a + 1)) → E25 k a) ∧
  (∀ k a b, (if n ≤ b then E25 k (a + 1) else E59 k a b (b + 1)) → E41 k a b) ∧
  (∀ k a b c, k + 1 < 2 ^ 31 → a < n → b < n → (if n ≤ c then E41 k a (b + 1) else if sh a b c = true then (if nI k = a1 then Q (400 * nI a + 20 * nI b + nI c) else E59 (k + 1) a b (c + 1)) else E59 k a b (c + 1)) → E59 k a b c)
theorem x_Tr_v {n : Nat} {a1 : Int32} {sh : Nat → Nat → Nat → Bool} (hn : n ≤ 14) : ∃ v : Int32, ∀ (Q : Int32 → Prop) (E25 : Nat → Nat → Prop) (E41 : Nat → Nat → Nat → Prop) (E59 : Nat → Nat → Nat → Nat → Prop), x_Tr n a1 sh Q E25 E41 E59 → Q v → E25 0 0 := by
  have l25 : ∀ i a k, a + i = n → k ≤ 196 * a → ∃ v : Int32, ∀ (Q : Int32 → Prop) (E25 : Nat → Nat → Prop) (E41 : Nat → Nat → Nat → Prop) (E59 : Nat → Nat → Nat → Nat → Prop), x_Tr n a1 sh Q E25 E41 E59 → Q v → E25 k a := by
    intro i
    induction i with
    | zero =>
      intro a k ha hk
      by_cases h1 : a1 = -1
      · refine ⟨nI k, fun Q E25 E41 E59 h hq => h.1 k a ?_⟩
        rw [if_pos (by omega), if_pos h1]
        exact hq
      · refine ⟨-1000000, fun Q E25 E41 E59 h hq => h.1 k a ?_⟩
        rw [if_pos (by omega), if_neg h1]
        exact hq
    | succ i ih =>
      intro a k ha hk
      have l41 : ∀ j b k, b + j = n → a < b → k ≤ 196 * a + 14 * b → ∃ v : Int32, ∀ (Q : Int32 → Prop) (E25 : Nat → Nat → Prop) (E41 : Nat → Nat → Nat → Prop) (E59 : Nat → Nat → Nat → Nat → Prop), x_Tr n a1 sh Q E25 E41 E59 → Q v → E41 k a b := by
        intro j
        induction j with
        | zero =>
          intro b k hb hab hk
          obtain ⟨v, hv⟩ := ih (a + 1) k (by omega) (by omega)
          refine ⟨v, fun Q E25 E41 E59 h hq => h.2.1 k a b ?_⟩
          rw [if_pos (by omega)]
          exact hv Q E25 E41 E59 h hq
        | succ j ih2 =>
          intro b k hb hab hk
          have l59 : ∀ e c k, c + e = n → b < c → k ≤ 196 * a + 14 * b + c → ∃ v : Int32, ∀ (Q : Int32 → Prop) (E25 : Nat → Nat → Prop) (E41 : Nat → Nat → Nat → Prop) (E59 : Nat → Nat → Nat → Nat → Prop), x_Tr n a1 sh Q E25 E41 E59 → Q v → E59 k a b c := by
            intro e
            induction e with
            | zero =>
              intro c k hc hbc hk
              obtain ⟨v, hv⟩ := ih2 (b + 1) k (by omega) (by omega) (by omega)
              refine ⟨v, fun Q E25 E41 E59 h hq => h.2.2 k a b c (by omega) (by omega) (by omega) ?_⟩
              rw [if_pos (by omega)]
              exact hv Q E25 E41 E59 h hq
            | succ e ih3 =>
              intro c k hc hbc hk
              by_cases hs : sh a b c = true
              · by_cases hk1 : nI k = a1
                · refine ⟨400 * nI a + 20 * nI b + nI c, fun Q E25 E41 E59 h hq => h.2.2 k a b c (by omega) (by omega) (by omega) ?_⟩
                  rw [if_neg (by omega), if_pos hs, if_pos hk1]
                  exact hq
                · obtain ⟨v, hv⟩ := ih3 (c + 1) (k + 1) (by omega) (by omega) (by omega)
                  refine ⟨v, fun Q E25 E41 E59 h hq => h.2.2 k a b c (by omega) (by omega) (by omega) ?_⟩
                  rw [if_neg (by omega), if_pos hs, if_neg hk1]
                  exact hv Q E25 E41 E59 h hq
              · obtain ⟨v, hv⟩ := ih3 (c + 1) k (by omega) (by omega) (by omega)
                refine ⟨v, fun Q E25 E41 E59 h hq => h.2.2 k a b c (by omega) (by omega) (by omega) ?_⟩
                rw [if_neg (by omega), if_neg hs]
                exact hv Q E25 E41 E59 h hq
          obtain ⟨v, hv⟩ := l59 (n - (b + 1)) (b + 1) k (by omega) (by omega) (by omega)
          refine ⟨v, fun Q E25 E41 E59 h hq => h.2.1 k a b ?_⟩
          rw [if_neg (by omega)]
          exact hv Q E25 E41 E59 h hq
      obtain ⟨v, hv⟩ := l41 (n - (a + 1)) (a + 1) k (by omega) (by omega) (by omega)
      refine ⟨v, fun Q E25 E41 E59 h hq => h.1 k a ?_⟩
      rw [if_neg (by omega)]
      exact hv Q E25 E41 E59 h hq
  exact l25 n 0 0 (by omega) (by omega)
section TRIPLES
variable {xs : List Int32} {d : Nat} {S : x_M} {n a b c : Nat} {L : Nat → Int32}
theorem c_canShut (hn : n ≤ 14) (ha : a < n) (hb : b < n) (hc : c < n) (hL : ∀ v, v < 8 * n → S 14 v = L v) : x_Cr xs (d + 2) 79 [.ref 12, .int (nI a), .int (nI b), .int (nI c)] S (x_b (x_sht L a b c)) := by
  refine x_Ci_of (by rw [ml_79]; rfl) (T_79_0 (by decide) ?_)
  have loop : ∀ i s, s + i = 8 → (∀ v, v < 8 * s → ¬ L (8 * a) &&& L (8 * b + v / 8) &&& L (8 * c + v % 8) = 0) → ∀ a5 a6 : Value, x_E xs (d + 2) 79 3 [.ref 12, .int (nI a), .int (nI b), .int (nI c), .int (nI s), a5, a6] [] S (fun r S' => ∃ v : Int32, r = some (.int v) ∧ v = x_b (x_sht L a b c) ∧ S' = S) := by
    intro i
    induction i with
    | zero =>
      intro s hs hall a5 a6
      refine T_79_3 (by decide) ?_
      rw [if_pos (by rw [show s = 8 by omega]; decide)]
      refine ⟨_, rfl, x_b_f (fun z => ?_), rfl⟩
      unfold x_sht at z
      rw [decide_eq_true_eq] at z
      obtain ⟨v, hv, e⟩ := z
      exact hall v (by omega) e
    | succ i ih =>
      intro s hs hall a5 a6
      refine T_79_3 (by decide) ?_
      rw [if_neg (show ¬ (8 : Int32) ≤ nI s from nI_ge (b := 8) (by omega) (by decide))]
      refine x_rd (c_lie (w := 0) (by decide) (by omega) (by omega)) (x_rd (c_lie (by decide) (by omega) (by omega)) ?_)
      show x_E xs (d + 2) 79 29 [.ref 12, .int (nI a), .int (nI b), .int (nI c), .int (nI s), .int (S 14 (8 * a + 0) &&& S 14 (8 * b + s)), .int 0] [] S _
      rw [hL (8 * a + 0) (by omega), hL (8 * b + s) (by omega)]
      have inner : ∀ j t, t + j = 8 → (∀ v, v < 8 * s + t → ¬ L (8 * a) &&& L (8 * b + v / 8) &&& L (8 * c + v % 8) = 0) → x_E xs (d + 2) 79 29 [.ref 12, .int (nI a), .int (nI b), .int (nI c), .int (nI s), .int (L (8 * a + 0) &&& L (8 * b + s)), .int (nI t)] [] S (fun r S' => ∃ v : Int32, r = some (.int v) ∧ v = x_b (x_sht L a b c) ∧ S' = S) := by
        intro j
        induction j with
        | zero =>
          intro t ht hall2
          refine T_79_29 (by decide) ?_
          rw [if_pos (by rw [show t = 8 by omega]; decide), ← nI_succ]
          exact ih (s + 1) (by omega) (fun v hv => hall2 v (by omega)) _ _
        | succ j ih2 =>
          intro t ht hall2
          refine T_79_29 (by decide) ?_
          rw [if_neg (show ¬ (8 : Int32) ≤ nI t from nI_ge (b := 8) (by omega) (by decide))]
          refine x_rd (c_lie (by decide) (by omega) (by omega)) ?_
          show if (L (8 * a + 0) &&& L (8 * b + s) &&& S 14 (8 * c + t)) = 0 then _ else _
          rw [hL (8 * c + t) (by omega)]
          split
          next h =>
            refine ⟨_, rfl, x_b_t ?_, rfl⟩
            unfold x_sht
            rw [decide_eq_true_eq]
            refine ⟨8 * s + t, by omega, ?_⟩
            rw [show (8 * s + t) / 8 = s by omega, show (8 * s + t) % 8 = t by omega]
            exact h
          next h =>
            rw [← nI_succ]
            refine ih2 (t + 1) (by omega) (fun v hv => ?_)
            by_cases hvt : v = 8 * s + t
            · rw [hvt, show (8 * s + t) / 8 = s by omega, show (8 * s + t) % 8 = t by omega]
              exact h
            · exact hall2 v (by omega)
      exact inner 8 0 rfl (fun v hv => hall v (by omega))
  exact loop 8 0 rfl (fun v hv => by omega) _ _
theorem c_shuts (hn : n ≤ 14) (ha : a < n) (hb : b < n) (hc : c < n) (hL : ∀ v, v < 8 * n → S 66 v = L v) : x_Cr xs (d + 2) 149 [.ref 56, .int (nI a), .int (nI b), .int (nI c)] S (x_b (x_sht L a b c)) := by
  refine x_Ci_of (by rw [ml_149]; rfl) (T_149_0 ?_)
  have loop : ∀ i w, w + i = 64 → x_E xs (d + 2) 149 6 [.ref 56, .int (nI a), .int (nI b), .int (nI c), .int (x_b (decide (∃ v : Nat, v < w ∧ L (8 * a) &&& L (8 * b + v / 8) &&& L (8 * c + v % 8) = 0))), .int (nI w)] [] S (fun r S' => ∃ v : Int32, r = some (.int v) ∧ v = x_b (x_sht L a b c) ∧ S' = S) := by
    intro i
    induction i with
    | zero =>
      intro w hw
      have hw8 : w = 64 := by omega
      subst hw8
      refine T_149_6 ?_
      rw [if_pos (by decide)]
      exact ⟨x_b01 _, _, rfl, rfl, rfl⟩
    | succ i ih =>
      intro w hw
      refine T_149_6 ?_
      have hi := ih (w + 1) (by omega)
      rw [nI_succ] at hi
      rw [if_neg (show ¬ (64 : Int32) ≤ nI w from nI_ge (b := 64) (by omega) (by decide))]
      split
      next h =>
        rw [x_b_0, decide_eq_true_eq] at h
        rw [show nI w - nI w / 8 * 8 = nI (w % 8) from nI_rem (b := 8) (by omega) (by omega), show nI w / 8 = nI (w / 8) from nI_div (b := 8) (by omega) (by omega), x_8cw, x_8cw, show (8 : Int32) * nI a = nI (8 * a) from nI_mul 8 a, nI_clamp (n := 8 * a) (by omega), nI_clamp (n := 8 * b + w / 8) (by omega), nI_clamp (n := 8 * c + w % 8) (by omega), hL (8 * a) (by omega), hL (8 * b + w / 8) (by omega), hL (8 * c + w % 8) (by omega)]
        refine ⟨x_ib_n (by omega) (by decide), x_ib_n (by omega) (by decide), x_ib_n (by omega) (by decide), ?_⟩
        split
        next h2 =>
          rw [show decide (∃ v : Nat, v < w + 1 ∧ L (8 * a) &&& L (8 * b + v / 8) &&& L (8 * c + v % 8) = 0) = true from decide_eq_true ⟨w, by omega, h2⟩] at hi
          exact hi
        next h2 =>
          rw [show decide (∃ v : Nat, v < w + 1 ∧ L (8 * a) &&& L (8 * b + v / 8) &&& L (8 * c + v % 8) = 0) = false from decide_eq_false (by
            rintro ⟨u, hu, e⟩
            by_cases huw : u = w
            · subst huw; exact h2 e
            · exact h ⟨u, by omega, e⟩)] at hi
          exact hi
      next h =>
        have h := Decidable.not_not.mp (fun z => h (x_b_0.mpr z))
        rw [decide_eq_true_eq] at h
        obtain ⟨u, hu, e⟩ := h
        rw [show decide (∃ v : Nat, v < w + 1 ∧ L (8 * a) &&& L (8 * b + v / 8) &&& L (8 * c + v % 8) = 0) = true from decide_eq_true ⟨u, by omega, e⟩] at hi
        exact hi
  have h0 := loop 64 0 rfl
  have e0 : ∀ w : Nat, w = 0 → decide (∃ v : Nat, v < w ∧ L (8 * a) &&& L (8 * b + v / 8) &&& L (8 * c + v % 8) = 0) = false := fun w hw => decide_eq_false (by rintro ⟨u, hu, _⟩; omega)
  rw [e0 0 rfl] at h0
  exact h0
theorem o_triples {e : Int32} (H : x_Inv S) : x_Op xs (d + 3) 78 148 [.int e] S := by
  obtain ⟨n, n1, n2, n3, n4⟩ := x_view H
  rcases n4 with ⟨p1, p2, _⟩ | ⟨p1, p2, p3, p4⟩
  case inl =>
    refine x_Op_rd (v := -1000002) H ?_ ?_
    · refine x_Ci_of (by rw [ml_78]; rfl) (T_78_0 ?_)
      rw [if_pos p1]
      exact x_rt_i rfl
    · refine x_Ci_of (by rw [ml_148]; rfl) (T_148_0 ?_)
      rw [if_pos p2]
      exact x_rt_i rfl
  case inr =>
  by_cases he : -1 ≤ e
  case neg =>
    refine x_Op_rd (v := -1000001) H ?_ ?_
    · refine x_Ci_of (by rw [ml_78]; rfl) (T_78_0 ?_)
      rw [p1, if_neg (by decide), if_neg he]
      exact x_rt_i rfl
    · refine x_Ci_of (by rw [ml_148]; rfl) (T_148_0 ?_)
      rw [p2, if_neg (by decide), if_neg he]
      exact x_rt_i rfl
  case pos =>
  have hLC : ∀ v, v < 8 * n → S 14 v = S 66 v := fun v hv => (x_On_v p4 hv).1
  obtain ⟨v, hv⟩ := x_Tr_v (n := n) (a1 := e) (sh := x_sht (S 66)) n1
  refine x_Op_rd (v := v) H ?_ ?_
  · refine x_Ci_of (by rw [ml_78]; rfl) (T_78_0 ?_)
    rw [p1, if_neg (by decide), if_pos he]
    refine hv (fun w => ∃ u : Int32, some (Value.int w) = some (.int u) ∧ u = v ∧ S = S) (fun k a => a ≤ n → ∀ a4 a5 : Value, x_E xs (d + 3) 78 25 [.ref 8, .int e, .int (nI k), .int (nI a), a4, a5] [] S (fun r S' => ∃ u : Int32, r = some (.int u) ∧ u = v ∧ S' = S)) (fun k a b => a < n → b ≤ n → ∀ a5 : Value, x_E xs (d + 3) 78 41 [.ref 8, .int e, .int (nI k), .int (nI a), .int (nI b), a5] [] S (fun r S' => ∃ u : Int32, r = some (.int u) ∧ u = v ∧ S' = S)) (fun k a b c => a < n → b < n → c ≤ n → x_E xs (d + 3) 78 59 [.ref 8, .int e, .int (nI k), .int (nI a), .int (nI b), .int (nI c)] [] S (fun r S' => ∃ u : Int32, r = some (.int u) ∧ u = v ∧ S' = S)) ⟨?_, ?_, ?_⟩ ⟨_, rfl, rfl, rfl⟩ (by omega) _ _
    · intro k a h ha a4 a5
      refine T_78_25 ?_
      rw [n2]
      by_cases hna : n ≤ a
      · rw [if_pos hna] at h
        rw [if_pos (nI_le hna (by omega))]
        exact h
      · rw [if_neg hna] at h
        rw [if_neg (nI_ge (by omega) (by omega)), ← nI_succ]
        exact h (by omega) (by omega) _
    · intro k a b h ha hb a5
      refine T_78_41 ?_
      rw [n2]
      by_cases hna : n ≤ b
      · rw [if_pos hna] at h
        rw [if_pos (nI_le hna (by omega)), ← nI_succ]
        exact h (by omega) _ _
      · rw [if_neg hna] at h
        rw [if_neg (nI_ge (by omega) (by omega)), ← nI_succ]
        exact h (by omega) (by omega) (by omega)
    · intro k a b c hk ha hb h _ _ hc
      refine T_78_59 ?_
      rw [n2]
      by_cases hna : n ≤ c
      · rw [if_pos hna] at h
        rw [if_pos (nI_le hna (by omega)), ← nI_succ]
        exact h (by omega) (by omega) _
      · rw [if_neg hna] at h
        rw [if_neg (nI_ge (by omega) (by omega))]
        refine x_rd (c_canShut n1 ha hb (by omega) hLC) ?_
        generalize x_sht (S 66) a b c = q at h ⊢
        rcases Bool.eq_false_or_eq_true q with hs | hs
        · rw [if_pos hs] at h
          rw [if_neg (x_b_ne hs)]
          by_cases hk1 : nI k = e
          · rw [if_pos hk1] at h
            rw [if_pos hk1]
            exact h
          · rw [if_neg hk1] at h
            rw [if_neg hk1, ← nI_succ, ← nI_succ]
            exact h (by omega) (by omega) (by omega)
        · have hs : ¬ q = true := by rw [hs]; decide
          rw [if_neg hs] at h
          rw [if_pos (x_b_0.mpr hs), ← nI_succ]
          exact h (by omega) (by omega) (by omega)
  · refine x_Ci_of (by rw [ml_148]; rfl) (T_148_0 ?_)
    rw [p2, if_neg (by decide), if_pos he]
    refine hv (fun w => ∃ u : Int32, some (Value.int w) = some (.int u) ∧ u = v ∧ S = S) (fun k a => a ≤ n → ∀ a4 a5 : Value, x_E xs (d + 3) 148 24 [.ref 56, .int e, .int (nI k), .int (nI a), a4, a5] [] S (fun r S' => ∃ u : Int32, r = some (.int u) ∧ u = v ∧ S' = S)) (fun k a b => a < n → b ≤ n → ∀ a5 : Value, x_E xs (d + 3) 148 39 [.ref 56, .int e, .int (nI k), .int (nI a), .int (nI b), a5] [] S (fun r S' => ∃ u : Int32, r = some (.int u) ∧ u = v ∧ S' = S)) (fun k a b c => a < n → b < n → c ≤ n → x_E xs (d + 3) 148 56 [.ref 56, .int e, .int (nI k), .int (nI a), .int (nI b), .int (nI c)] [] S (fun r S' => ∃ u : Int32, r = some (.int u) ∧ u = v ∧ S' = S)) ⟨?_, ?_, ?_⟩ ⟨_, rfl, rfl, rfl⟩ (by omega) _ _
    · intro k a h ha a4 a5
      refine T_148_24 ?_
      rw [n3]
      by_cases hna : n ≤ a
      · rw [if_pos hna] at h
        rw [if_pos (nI_le hna (by omega))]
        exact h
      · rw [if_neg hna] at h
        rw [if_neg (nI_ge (by omega) (by omega)), ← nI_succ]
        exact h (by omega) (by omega) _
    · intro k a b h ha hb a5
      refine T_148_39 ?_
      rw [n3]
      by_cases hna : n ≤ b
      · rw [if_pos hna] at h
        rw [if_pos (nI_le hna (by omega)), ← nI_succ]
        exact h (by omega) _ _
      · rw [if_neg hna] at h
        rw [if_neg (nI_ge (by omega) (by omega)), ← nI_succ]
        exact h (by omega) (by omega) (by omega)
    · intro k a b c hk ha hb h _ _ hc
      refine T_148_56 ?_
      rw [n3]
      by_cases hna : n ≤ c
      · rw [if_pos hna] at h
        rw [if_pos (nI_le hna (by omega)), ← nI_succ]
        exact h (by omega) (by omega) _
      · rw [if_neg hna] at h
        rw [if_neg (nI_ge (by omega) (by omega))]
        refine x_rd (c_shuts n1 ha hb (by omega) (fun _ _ => rfl)) ?_
        generalize x_sht (S 66) a b c = q at h ⊢
        rcases Bool.eq_false_or_eq_true q with hs | hs
        · rw [if_pos hs] at h
          rw [if_neg (x_b_ne hs)]
          by_cases hk1 : nI k = e
          · rw [if_pos hk1] at h
            rw [if_pos hk1]
            exact h
          · rw [if_neg hk1] at h
            rw [if_neg hk1, ← nI_succ, ← nI_succ]
            exact h (by omega) (by omega) (by omega)
        · have hs : ¬ q = true := by rw [hs]; decide
          rw [if_neg hs] at h
          rw [if_pos (x_b_0.mpr hs), ← nI_succ]
          exact h (by omega) (by omega) (by omega)
end TRIPLES
