/-! a card turned and mirrored, by numbers -/
def x_mvN (f : Nat → Nat) (m : Nat) : Nat → Nat
  | 0 => 0
  | k + 1 => x_mvN f m k ||| ((m >>> k &&& 1) <<< f k)
def x_lieN (m : Nat) : Nat → Nat
  | 0 => m
  | 4 => x_mvN x_mn m 9
  | k + 1 => x_mvN x_tn (x_lieN m k) 9
theorem x_mv_n {f : Nat → Nat} {m : Nat} (hm : m < 2 ^ 31) (hf : ∀ k, k < 9 → f k < 9) : ∀ k, k ≤ 9 → x_mv f (nI m) k = nI (x_mvN f m k) := by
  intro k
  induction k with
  | zero => intro _; rfl
  | succ k ih =>
    intro hk
    have h1 := hf k (by omega)
    show x_mv f (nI m) k ||| (((nI m >>> (nI k &&& 31)) &&& 1) <<< (nI (f k) &&& 31)) = _
    rw [ih (by omega), x_bt_n hm (by omega), nI_shl (by omega), nI_or]
    rfl
theorem x_mvN_lt {f : Nat → Nat} {m : Nat} (hf : ∀ k, k < 9 → f k < 9) : ∀ k, k ≤ 9 → x_mvN f m k < 512 := by
  intro k
  induction k with
  | zero => intro _; show 0 < 512; omega
  | succ k ih =>
    intro hk
    have h1 := hf k (by omega)
    show x_mvN f m k ||| ((m >>> k &&& 1) <<< f k) < 2 ^ 9
    refine Nat.or_lt_two_pow (ih (by omega)) ?_
    have h2 : m >>> k &&& 1 ≤ 1 := Nat.and_le_right
    have h3 : 2 ^ f k ≤ 2 ^ 8 := Nat.pow_le_pow_right (by omega) (by omega)
    rw [Nat.shiftLeft_eq]
    have h4 : (m >>> k &&& 1) * 2 ^ f k ≤ 1 * 2 ^ f k := Nat.mul_le_mul_right _ h2
    omega
theorem x_tn_lt : ∀ k, k < 9 → x_tn k < 9 := fun k h => by unfold x_tn; omega
theorem x_mn_lt : ∀ k, k < 9 → x_mn k < 9 := fun k h => by unfold x_mn; omega
theorem x_lieN_lt {m w : Nat} (hm : m < 512) (hw : w < 8) : x_lieN m w < 512 := by
  rcases (by omega : w = 0 ∨ w = 1 ∨ w = 2 ∨ w = 3 ∨ w = 4 ∨ w = 5 ∨ w = 6 ∨ w = 7) with rfl | rfl | rfl | rfl | rfl | rfl | rfl | rfl
  · exact hm
  · exact x_mvN_lt x_tn_lt 9 (by omega)
  · exact x_mvN_lt x_tn_lt 9 (by omega)
  · exact x_mvN_lt x_tn_lt 9 (by omega)
  · exact x_mvN_lt x_mn_lt 9 (by omega)
  · exact x_mvN_lt x_tn_lt 9 (by omega)
  · exact x_mvN_lt x_tn_lt 9 (by omega)
  · exact x_mvN_lt x_tn_lt 9 (by omega)
theorem x_lie_n {m w : Nat} (hm : m < 512) (hw : w < 8) : x_lieF (nI m) w = nI (x_lieN m w) := by
  have h0 : ∀ m, m < 512 → x_mv x_tn (nI m) 9 = nI (x_mvN x_tn m 9) := fun m h => x_mv_n (by omega) x_tn_lt 9 (by omega)
  have h4 : x_lieF (nI m) 4 = nI (x_lieN m 4) := x_mv_n (by omega) x_mn_lt 9 (by omega)
  have st : ∀ k, x_lieF (nI m) k = nI (x_lieN m k) → x_lieN m k < 512 → x_mv x_tn (x_lieF (nI m) k) 9 = nI (x_mvN x_tn (x_lieN m k) 9) := fun k e h => by rw [e]; exact h0 _ h
  have e1 : x_lieF (nI m) 1 = nI (x_lieN m 1) := st 0 rfl hm
  have e2 : x_lieF (nI m) 2 = nI (x_lieN m 2) := st 1 e1 (x_lieN_lt hm (by omega))
  have e5 : x_lieF (nI m) 5 = nI (x_lieN m 5) := st 4 h4 (x_lieN_lt hm (by omega))
  have e6 : x_lieF (nI m) 6 = nI (x_lieN m 6) := st 5 e5 (x_lieN_lt hm (by omega))
  rcases (by omega : w = 0 ∨ w = 1 ∨ w = 2 ∨ w = 3 ∨ w = 4 ∨ w = 5 ∨ w = 6 ∨ w = 7) with rfl | rfl | rfl | rfl | rfl | rfl | rfl | rfl
  · rfl
  · exact e1
  · exact e2
  · exact st 2 e2 (x_lieN_lt hm (by omega))
  · exact h4
  · exact e5
  · exact e6
  · exact st 6 e6 (x_lieN_lt hm (by omega))
/-! WHAT A GAME THAT IS THERE SHOWS -/
def x_On (S : x_M) (n : Nat) : Prop := (∀ k, k < 9 → S 13 k = S 57 (16 + k) ∧ ∃ t : Nat, t ≤ 99 ∧ S 57 (16 + k) = nI t) ∧
  (∀ c, c < n → ∃ m : Nat, m < 512 ∧ S 57 (2 + c) = nI m ∧ ∀ w, w < 8 → S 14 (8 * c + w) = nI (x_lieN m w) ∧ S 66 (8 * c + w) = nI (x_lieN m w)) ∧ ∃ A, x_GC S 12 A ∧ x_GM S 0 A ∧ x_AW n A
theorem x_view {S : x_M} (H : x_Inv S) : ∃ n : Nat, n ≤ 14 ∧ S 12 5 = nI n ∧ S 57 1 = nI n ∧ ((S 12 4 = 0 ∧ S 57 0 = 0 ∧ n = 0 ∧ S 15 0 = 0 ∧ S 15 1 = 0 ∧ S 57 30 = 0 ∧ S 57 31 = 0) ∨ (S 12 4 = 1 ∧ S 57 0 = 1 ∧ 1 ≤ n ∧ x_On S n)) := by
  obtain ⟨h1, h2, ⟨⟨n, g1, g2, g3, g4⟩, h4, h5⟩, h6, h7, h8⟩ := H
  refine ⟨n, g1, g2, g3, ?_⟩
  rcases g4 with ⟨a1, a2, a3, a4, a5, a6, a7⟩ | ⟨a1, a2, a3, a4⟩
  · exact Or.inl ⟨a1, a2, a3, a4, a5, a6, a7⟩
  · obtain ⟨⟨t1, t2⟩, A, c1, c2, c3⟩ := x_GJ_A a4
    refine Or.inr ⟨a1, a2, a3, ?_, ?_, A, c1, c2, c3⟩
    · intro k hk
      obtain ⟨e, t, ht, et⟩ := t1 k hk
      rw [Nat.zero_add] at e
      exact ⟨e, t, ht, by rw [← e]; exact et⟩
    · intro c hc
      obtain ⟨⟨m, hm, em⟩, hl⟩ := t2 c hc
      rw [Nat.zero_add] at em hl
      refine ⟨m, hm, em, fun w hw => ⟨?_, ?_⟩⟩
      · rw [← x_lie_n hm hw, ← em]
        exact hl w hw
      · rw [← x_lie_n hm hw, ← em]
        exact h6 n c w g1 g3 hc hw
theorem x_On_v {S : x_M} {n v : Nat} (H : x_On S n) (hv : v < 8 * n) : S 14 v = S 66 v ∧ ∃ m : Nat, m < 512 ∧ S 66 v = nI m := by
  obtain ⟨m, hm, em, hl⟩ := H.2.1 (v / 8) (by omega)
  have h := hl (v % 8) (by omega)
  rw [show 8 * (v / 8) + v % 8 = v by omega] at h
  exact ⟨h.1.trans h.2.symm, _, x_lieN_lt hm (by omega), h.2⟩
theorem x_wsum_c {f g : Nat → Int32} {P : Int32} : ∀ k, (∀ j, j < k → f j = g j) → x_wsum f P k = x_wsum g P k := by
  intro k
  induction k with
  | zero => intro _; rfl
  | succ k ih =>
    intro h
    show x_wsum f P k + _ = x_wsum g P k + _
    rw [ih (fun j hj => h j (by omega)), h k (by omega)]
theorem x_On_w {S : x_M} {n : Nat} {P : Int32} (H : x_On S n) : x_wsum (S 13) P 9 = x_wsum (fun k => S 57 (16 + k)) P 9 := x_wsum_c 9 (fun j hj => (H.1 j hj).1)
theorem x_gain_c {L M T U : Nat → Int32} {v : Nat} {A : x_Ga} (h : L v = M v) (ht : ∀ P, x_wsum T P 9 = x_wsum U P 9) : x_gain L T v A = x_gain M U v A := by
  unfold x_gain
  rw [h, ht]
theorem x_stp_c {L M T U : Nat → Int32} {v : Nat} {A : x_Ga} (h : L v = M v) (ht : ∀ P, x_wsum T P 9 = x_wsum U P 9) : x_stp L T v A = x_stp M U v A := by
  unfold x_stp
  rw [x_gain_c h ht, h]
/-- what stays, when the game goes on -/
theorem x_Inv_pl {S S' : x_M} {n : Nat} {A : x_Ga} (H : x_Inv S) (hn : S 12 5 = nI n) (hn4 : n ≤ 14) (h4 : S 12 4 = 1)
    (h : ∀ p k, ¬ (p = 23 ∨ p = 24 ∨ p = 25 ∨ p = 26 ∨ p = 27 ∨ (17 ≤ p ∧ p ≤ 21) ∨ (p = 56 ∧ (10 ≤ k)) ∨ (63 ≤ p ∧ p ≤ 65) ∨ 67 ≤ p) → ¬ (p = 12 ∧ 6 ≤ k ∧ k ≤ 9) → p ≠ 15 → p ≠ 16 → ¬ (p = 57 ∧ 25 ≤ k ∧ k ≤ 32) → S' p k = S p k)
    (hc : x_GC S' 12 A) (hm : x_GM S' 0 A) (hw : x_AW n A) : x_Inv S' := by
  obtain ⟨h1, h2, ⟨⟨n', g1, g2, g3, g4⟩, h4', h5⟩, h6, h7, h8⟩ := H
  have hnn : n' = n := by
    rw [g2] at hn
    exact (nI_eq (by omega) (by omega)).mp hn
  subst hnn
  refine ⟨fun r hr => x_RI_c hr (fun p k hp => h p k (by omega) (by omega) (by omega) (by omega) (by omega)) (h1 r hr), x_TI_c (fun p k hp => h p k (by omega) (by omega) (by omega) (by omega) (by omega)) h2, ⟨?_, x_GI_c (fun p k hp => h p k (by omega) (by omega) (by omega) (by omega) (by omega)) h4', x_GI_c (fun p k hp => h p k (by omega) (by omega) (by omega) (by omega) (by omega)) h5⟩, ?_, x_BI_c (fun p k hp => h p k (by omega) (by omega) (by omega) (by omega) (by omega)) h7, x_FI_c (fun p k hp => h p k (by omega) (by omega) (by omega) (by omega) (by omega)) h8⟩
  · refine ⟨n', g1, by rw [h 12 5 (by omega) (by omega) (by omega) (by omega) (by omega)]; exact g2, by rw [h 57 (0 + 1) (by omega) (by omega) (by omega) (by omega) (by omega)]; exact g3, Or.inr ?_⟩
    rcases g4 with ⟨a1, a2, a3, a4, a5, a6, a7⟩ | ⟨a1, a2, a3, a4⟩
    · rw [a1] at h4
      exact absurd h4 (by decide)
    · refine ⟨by rw [h 12 4 (by omega) (by omega) (by omega) (by omega) (by omega)]; exact a1, by rw [h 57 0 (by omega) (by omega) (by omega) (by omega) (by omega)]; exact a2, a3, x_GJ_of ?_ hc hm hw⟩
      obtain ⟨⟨t1, t2⟩, _⟩ := x_GJ_A a4
      refine ⟨fun k hk => ?_, fun c hc => ?_⟩
      · rw [h (12 + 1) k (by omega) (by omega) (by omega) (by omega) (by omega), h 57 (0 + 16 + k) (by omega) (by omega) (by omega) (by omega) (by omega)]
        exact t1 k hk
      · rw [h 57 (0 + 2 + c) (by omega) (by omega) (by omega) (by omega) (by omega)]
        refine ⟨(t2 c hc).1, fun w hw => ?_⟩
        rw [h (12 + 2) _ (by omega) (by omega) (by omega) (by omega) (by omega)]
        exact (t2 c hc).2 w hw
  · intro m c w e1 e2 e3 e4
    rw [h 57 1 (by omega) (by omega) (by omega) (by omega) (by omega)] at e2
    have hmm : m = n' := (nI_eq (by omega) (by omega)).mp (e2.symm.trans g3)
    subst hmm
    rw [h 66 _ (by omega) (by omega) (by omega) (by omega) (by omega), h 57 (2 + c) (by omega) (by omega) (by omega) (by omega) (by omega)]
    exact h6 m c w e1 e2 e3 e4
