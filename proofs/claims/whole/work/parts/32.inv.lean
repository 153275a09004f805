/-! WHAT HOLDS BETWEEN THE CLASS AND THE REFERENCE, between two calls of the law -/
theorem x_rr_all : ((List.range 75).all fun g => (!(decide (x_tg g = 0)) || ((List.range 4).all fun j => decide (x_rr g j = g + 1 + j))) && (!(decide (x_tg g = 2)) || decide (x_rr g 0 = g + 1))) = true := by decide +kernel
theorem x_rr_g {g j : Nat} (h : x_tg g = 0) (hj : j < 4) : x_rr g j = g + 1 + j := by
  have h1 := List.all_eq_true.mp x_rr_all g (List.mem_range.mpr (x_tg_lt h (by decide)).2)
  simp only [h, Bool.and_eq_true, Bool.or_eq_true, Bool.not_eq_true', decide_eq_false_iff_not, not_true, false_or] at h1
  have h2 := List.all_eq_true.mp h1.1 j (List.mem_range.mpr hj)
  simpa using h2
theorem x_rr_w {g : Nat} (h : x_tg g = 2) : x_rr g 0 = g + 1 := by
  have h1 := List.all_eq_true.mp x_rr_all g (List.mem_range.mpr (x_tg_lt h (by decide)).2)
  simp only [h, Bool.and_eq_true, Bool.or_eq_true, Bool.not_eq_true', decide_eq_false_iff_not, not_true, false_or] at h1
  simpa using h1.2
theorem x_rr_9 {k : Nat} (h : k < 8) : x_rr 9 k = 30 + 2 * k := by
  rcases (by omega : k = 0 ∨ k = 1 ∨ k = 2 ∨ k = 3 ∨ k = 4 ∨ k = 5 ∨ k = 6 ∨ k = 7) with rfl | rfl | rfl | rfl | rfl | rfl | rfl | rfl <;> rfl
theorem x_rr_22 {k : Nat} (h : k < 2) : x_rr 22 k = 46 + 5 * k := by
  rcases (by omega : k = 0 ∨ k = 1) with rfl | rfl <;> rfl
theorem x_tg_row {k : Nat} (h : k < 8) : x_tg (30 + 2 * k) = 2 := by
  rcases (by omega : k = 0 ∨ k = 1 ∨ k = 2 ∨ k = 3 ∨ k = 4 ∨ k = 5 ∨ k = 6 ∨ k = 7) with rfl | rfl | rfl | rfl | rfl | rfl | rfl | rfl <;> decide
theorem x_tg_items {k : Nat} (h : k < 8) : x_tg (31 + 2 * k) = 10 ∧ x_ln (31 + 2 * k) = 40 := by
  rcases (by omega : k = 0 ∨ k = 1 ∨ k = 2 ∨ k = 3 ∨ k = 4 ∨ k = 5 ∨ k = 6 ∨ k = 7) with rfl | rfl | rfl | rfl | rfl | rfl | rfl | rfl <;> decide
theorem x_tg_img {k : Nat} (h : k < 2) : x_tg (46 + 5 * k) = 0 := by
  rcases (by omega : k = 0 ∨ k = 1) with rfl | rfl <;> decide
/-! a card, turned and mirrored: as the class does it -/
def x_bt (P : Int32) (k : Nat) : Int32 := (P >>> (nI k &&& 31)) &&& 1
/-- where bit k goes by a quarter turn; by mirroring -/
def x_tn (k : Nat) : Nat := (2 - k / 3) + 3 * (k % 3)
def x_mn (k : Nat) : Nat := (2 - k % 3) + 3 * (k / 3)
def x_mv (f : Nat → Nat) (P : Int32) : Nat → Int32
  | 0 => 0
  | k + 1 => x_mv f P k ||| (x_bt P k <<< (nI (f k) &&& 31))
def x_lieF (P : Int32) : Nat → Int32
  | 0 => P
  | 4 => x_mv x_mn P 9
  | k + 1 => x_mv x_tn (x_lieF P k) 9
def x_RI (S : x_M) (r : Nat) : Prop := (S (30 + 2 * r) 1 = 1 ∧ (S (30 + 2 * r) 2 = 0 ∨ S (30 + 2 * r) 2 = 1 ∨ S (30 + 2 * r) 2 = 2) ∧ S 59 r = S (30 + 2 * r) 2 ∧ ∃ n : Nat, n ≤ 40 ∧ S (30 + 2 * r) 3 = nI n ∧ S 60 r = nI n ∧ ∀ i, i < n → S 61 (40 * r + i) = S (31 + 2 * r) i) ∨ (S (30 + 2 * r) 1 = 0 ∧ S 59 r = -1000000)
def x_TI (S : x_M) : Prop := ∃ n : Nat, n ≤ 400 ∧ S 10 1 = nI n ∧ S 56 2 = nI n ∧ ∀ i, i < n → S 58 i = S 11 i ∧ ∃ b : Nat, b < 256 ∧ S 11 i = nI b
def x_GJ (S : x_M) (g off n : Nat) : Prop :=
  (∀ k, k < 9 → S (g + 1) k = S 57 (off + 16 + k) ∧ ∃ t : Nat, t ≤ 99 ∧ S (g + 1) k = nI t) ∧
  (∀ c, c < n → (∃ m : Nat, m < 512 ∧ S 57 (off + 2 + c) = nI m) ∧ ∀ w, w < 8 → S (g + 2) (8 * c + w) = x_lieF (S 57 (off + 2 + c)) w) ∧
  (S g 6 = S 57 (off + 25) ∧ ∃ m : Nat, m < 512 ∧ S g 6 = nI m) ∧ S g 7 = S 57 (off + 26) ∧ S g 9 = S 57 (off + 32) ∧
  (S (g + 4) 0 = S 57 (off + 28) ∧ S (g + 4) 1 = S 57 (off + 29)) ∧
  (∃ l0 l1 h : Nat, l0 < 2 ^ n ∧ l1 < 2 ^ n ∧ l0 &&& l1 = 0 ∧ S (g + 3) 0 = nI l0 ∧ S (g + 3) 1 = nI l1 ∧ S 57 (off + 30) = nI l0 ∧ S 57 (off + 31) = nI l1 ∧ h < 2 ∧ S 57 (off + 27) = nI h ∧ ((l0 = 0 ∧ l1 = 0 ∧ S g 8 = -1000000) ∨ (S g 8 = nI h ∧ ¬ (if h = 0 then l0 else l1) = 0)))
def x_GI (S : x_M) (g off : Nat) : Prop := ∃ n : Nat, n ≤ 14 ∧ S g 5 = nI n ∧ S 57 (off + 1) = nI n ∧
  ((S g 4 = 0 ∧ S 57 off = 0 ∧ n = 0 ∧ S (g + 3) 0 = 0 ∧ S (g + 3) 1 = 0 ∧ S 57 (off + 30) = 0 ∧ S 57 (off + 31) = 0) ∨ (S g 4 = 1 ∧ S 57 off = 1 ∧ 1 ≤ n ∧ x_GJ S g off n))
def x_UI (S : x_M) : Prop := ∀ n c w : Nat, n ≤ 14 → S 57 1 = nI n → c < n → w < 8 → S 66 (8 * c + w) = x_lieF (S 57 (2 + c)) w
def x_BI (S : x_M) : Prop := ∃ n : Nat, n ≤ 16 ∧ S 28 1 = nI n ∧ S 56 9 = nI n ∧ ∀ i, i < n → S 62 i = S 29 i
def x_FI (S : x_M) : Prop := S 8 8 = S 56 3 ∧ S 8 9 = S 56 4
def x_Inv (S : x_M) : Prop := (∀ r, r < 8 → x_RI S r) ∧ x_TI S ∧ (x_GI S 12 0 ∧ x_GI S 46 33 ∧ x_GI S 51 66) ∧ x_UI S ∧ x_BI S ∧ x_FI S
/-! what each rests on -/
section INV
variable {S S' : x_M}
theorem x_RI_c {r : Nat} (hr : r < 8) (h : ∀ p k, (p = 30 + 2 * r ∨ p = 31 + 2 * r ∨ p = 59 ∨ p = 60 ∨ p = 61) → S' p k = S p k) (H : x_RI S r) : x_RI S' r := by
  unfold x_RI at H ⊢
  rw [h (30 + 2 * r) 1 (by omega), h (30 + 2 * r) 2 (by omega), h (30 + 2 * r) 3 (by omega), h 59 r (by omega), h 60 r (by omega)]
  rcases H with ⟨h1, h2, h3, n, h4, h5, h6, h7⟩ | H
  · exact Or.inl ⟨h1, h2, h3, n, h4, h5, h6, fun i hi => by rw [h 61 _ (by omega), h (31 + 2 * r) _ (by omega)]; exact h7 i hi⟩
  · exact Or.inr H
theorem x_TI_c (h : ∀ p k, (p = 10 ∨ p = 11 ∨ p = 58 ∨ (p = 56 ∧ k = 2)) → S' p k = S p k) (H : x_TI S) : x_TI S' := by
  obtain ⟨n, h1, h2, h3, h4⟩ := H
  exact ⟨n, h1, by rw [h 10 1 (by omega)]; exact h2, by rw [h 56 2 (by omega)]; exact h3, fun i hi => by rw [h 58 i (by omega), h 11 i (by omega)]; exact h4 i hi⟩
theorem x_GI_c {g off : Nat} (h : ∀ p k, ((g ≤ p ∧ p ≤ g + 4) ∨ (p = 57 ∧ off ≤ k ∧ k < off + 33)) → S' p k = S p k) (H : x_GI S g off) : x_GI S' g off := by
  obtain ⟨n, h1, h2, h3, h4⟩ := H
  refine ⟨n, h1, by rw [h g 5 (by omega)]; exact h2, by rw [h 57 (off + 1) (by omega)]; exact h3, ?_⟩
  rw [h g 4 (by omega), h 57 off (by omega), h (g + 3) 0 (by omega), h (g + 3) 1 (by omega), h 57 (off + 30) (by omega), h 57 (off + 31) (by omega)]
  rcases h4 with h4 | ⟨h4, h5, h6, h7⟩
  · exact Or.inl h4
  · refine Or.inr ⟨h4, h5, h6, ?_⟩
    unfold x_GJ at h7 ⊢
    obtain ⟨a1, a2, a3, a4, a5, a6, l0, l1, hh, b1, b2, b3, b4, b5, b6, b7, b8, b9, b10⟩ := h7
    refine ⟨fun k hk => by rw [h (g + 1) k (by omega), h 57 (off + 16 + k) (by omega)]; exact a1 k hk, fun c hc => by rw [h 57 (off + 2 + c) (by omega)]; exact ⟨(a2 c hc).1, fun w hw => by rw [h (g + 2) _ (by omega)]; exact (a2 c hc).2 w hw⟩, ?_, ?_, ?_, ?_, l0, l1, hh, b1, b2, b3, ?_, ?_, ?_, ?_, b8, ?_, ?_⟩
    · rw [h g 6 (by omega), h 57 (off + 25) (by omega)]; exact a3
    · rw [h g 7 (by omega), h 57 (off + 26) (by omega)]; exact a4
    · rw [h g 9 (by omega), h 57 (off + 32) (by omega)]; exact a5
    · rw [h (g + 4) 0 (by omega), h (g + 4) 1 (by omega), h 57 (off + 28) (by omega), h 57 (off + 29) (by omega)]; exact a6
    · rw [h (g + 3) 0 (by omega)]; exact b4
    · rw [h (g + 3) 1 (by omega)]; exact b5
    · rw [h 57 (off + 30) (by omega)]; exact b6
    · rw [h 57 (off + 31) (by omega)]; exact b7
    · rw [h 57 (off + 27) (by omega)]; exact b9
    · rw [h g 8 (by omega)]; exact b10
theorem x_UI_c (h : ∀ p k, (p = 66 ∨ (p = 57 ∧ k < 33)) → S' p k = S p k) (H : x_UI S) : x_UI S' := by
  intro n c w h1 h2 h3 h4
  rw [h 66 _ (by omega), h 57 (2 + c) (by omega)]
  exact H n c w h1 (by rw [← h 57 1 (by omega)]; exact h2) h3 h4
theorem x_BI_c (h : ∀ p k, (p = 28 ∨ p = 29 ∨ p = 62 ∨ (p = 56 ∧ k = 9)) → S' p k = S p k) (H : x_BI S) : x_BI S' := by
  obtain ⟨n, h1, h2, h3, h4⟩ := H
  exact ⟨n, h1, by rw [h 28 1 (by omega)]; exact h2, by rw [h 56 9 (by omega)]; exact h3, fun i hi => by rw [h 62 i (by omega), h 29 i (by omega)]; exact h4 i hi⟩
theorem x_FI_c (h : ∀ p k, ((p = 8 ∧ (k = 8 ∨ k = 9)) ∨ (p = 56 ∧ (k = 3 ∨ k = 4))) → S' p k = S p k) (H : x_FI S) : x_FI S' := by
  unfold x_FI at H ⊢
  rw [h 8 8 (by omega), h 8 9 (by omega), h 56 3 (by omega), h 56 4 (by omega)]
  exact H
/-- all that Inv rests on, but what a call of the rows may change in status() -/
theorem x_Inv_c (h : ∀ p k, ¬ (p = 23 ∨ p = 24 ∨ p = 25 ∨ p = 26 ∨ p = 27 ∨ (17 ≤ p ∧ p ≤ 21) ∨ (p = 56 ∧ (10 ≤ k)) ∨ (63 ≤ p ∧ p ≤ 65) ∨ 67 ≤ p) → S' p k = S p k) (H : x_Inv S) : x_Inv S' := by
  obtain ⟨h1, h2, ⟨h3, h4, h5⟩, h6, h7, h8⟩ := H
  exact ⟨fun r hr => x_RI_c hr (fun p k hp => h p k (by omega)) (h1 r hr), x_TI_c (fun p k hp => h p k (by omega)) h2, ⟨x_GI_c (fun p k hp => h p k (by omega)) h3, x_GI_c (fun p k hp => h p k (by omega)) h4, x_GI_c (fun p k hp => h p k (by omega)) h5⟩, x_UI_c (fun p k hp => h p k (by omega)) h6, x_BI_c (fun p k hp => h p k (by omega)) h7, x_FI_c (fun p k hp => h p k (by omega)) h8⟩
/-- a finding, or none: told by both alike -/
theorem x_Inv_st {a : Int32} (H : x_Inv S) : x_Inv (x_up (x_up S 8 9 a) 56 4 a) := by
  have key : ∀ p k, ¬ (p = 8 ∧ k = 9) → ¬ (p = 56 ∧ k = 4) → x_up (x_up S 8 9 a) 56 4 a p k = S p k := fun p k z1 z2 => by rw [x_up_ne z2, x_up_ne z1]
  obtain ⟨h1, h2, ⟨h3, h4, h5⟩, h6, h7, h8⟩ := H
  refine ⟨fun r hr => x_RI_c hr (fun p k hp => key p k (by omega) (by omega)) (h1 r hr), x_TI_c (fun p k hp => key p k (by omega) (by omega)) h2, ⟨x_GI_c (fun p k hp => key p k (by omega) (by omega)) h3, x_GI_c (fun p k hp => key p k (by omega) (by omega)) h4, x_GI_c (fun p k hp => key p k (by omega) (by omega)) h5⟩, x_UI_c (fun p k hp => key p k (by omega) (by omega)) h6, x_BI_c (fun p k hp => key p k (by omega) (by omega)) h7, ?_⟩
  refine ⟨by rw [key 8 8 (by omega) (by omega), key 56 3 (by omega) (by omega)]; exact h8.1, ?_⟩
  rw [x_up_at, x_up_ne (by omega), x_up_at]
end INV
/-- one call, of both: the answers are alike, and so is what holds behind them -/
def x_Op (xs : List Int32) (d z1 z2 : Nat) (A : List Value) (S : x_M) : Prop := x_Ci xs d z1 (.ref 8 :: A) S (fun v S1 => x_Ci xs d z2 (.ref 56 :: A) S1 (fun w S2 => w = v ∧ x_Inv S2))
theorem x_Op_rd {xs : List Int32} {d z1 z2 : Nat} {A : List Value} {S : x_M} {v : Int32} (H : x_Inv S) (h1 : x_Cr xs d z1 (.ref 8 :: A) S v) (h2 : x_Cr xs d z2 (.ref 56 :: A) S v) : x_Op xs d z1 z2 A S :=
  x_Ci_weak h1 (fun w S1 q => by obtain ⟨rfl, rfl⟩ := q; exact x_Ci_weak h2 (fun w2 S2 q2 => by obtain ⟨rfl, rfl⟩ := q2; exact ⟨rfl, H⟩))
