/-! WHAT SHOWS OF A GAME, by numbers only -/
def x_wN (T : Nat → Nat) (P : Nat) : Nat → Nat
  | 0 => 0
  | k + 1 => x_wN T P k + (if P.testBit k = true then T k else 0)
def x_VC (S : x_M) (n : Nat) (L T : Nat → Nat) : Prop := S 12 5 = nI n ∧ (∀ k, k < 9 → S 13 k = nI (T k)) ∧ ∀ v, v < 8 * n → S 14 v = nI (L v)
def x_VM (S : x_M) (n : Nat) (L T : Nat → Nat) : Prop := S 57 1 = nI n ∧ (∀ k, k < 9 → S 57 (16 + k) = nI (T k)) ∧ ∀ v, v < 8 * n → S 66 v = nI (L v)
def x_VB (n : Nat) (L T : Nat → Nat) : Prop := n ≤ 14 ∧ (∀ k, k < 9 → T k ≤ 99) ∧ ∀ v, v < 8 * n → L v < 512
theorem x_vw {S : x_M} {n : Nat} (hn : n ≤ 14) (h2 : S 12 5 = nI n) (h3 : S 57 1 = nI n) (H : x_On S n) : ∃ L T : Nat → Nat, x_VB n L T ∧ x_VC S n L T ∧ x_VM S n L T := by
  refine ⟨fun v => (S 66 v).toNatClampNeg, fun k => (S 57 (16 + k)).toNatClampNeg, ⟨hn, ?_, ?_⟩, ⟨h2, ?_, ?_⟩, h3, ?_, ?_⟩
  · intro k hk
    obtain ⟨_, t, ht, e⟩ := H.1 k hk
    show (S 57 (16 + k)).toNatClampNeg ≤ 99
    rw [e, nI_clamp (by omega)]
    exact ht
  · intro v hv
    obtain ⟨_, m, hm, e⟩ := x_On_v H hv
    show (S 66 v).toNatClampNeg < 512
    rw [e, nI_clamp (by omega)]
    exact hm
  · intro k hk
    obtain ⟨e1, t, ht, e⟩ := H.1 k hk
    show _ = nI (S 57 (16 + k)).toNatClampNeg
    rw [e1, e, nI_clamp (by omega)]
  · intro v hv
    obtain ⟨e1, m, hm, e⟩ := x_On_v H hv
    show _ = nI (S 66 v).toNatClampNeg
    rw [e1, e, nI_clamp (by omega)]
  · intro k hk
    obtain ⟨e1, t, ht, e⟩ := H.1 k hk
    show _ = nI (S 57 (16 + k)).toNatClampNeg
    rw [e, nI_clamp (by omega)]
  · intro v hv
    obtain ⟨e1, m, hm, e⟩ := x_On_v H hv
    show _ = nI (S 66 v).toNatClampNeg
    rw [e, nI_clamp (by omega)]
theorem x_wsum_n {f : Nat → Int32} {T : Nat → Nat} {P : Nat} (hP : P < 2 ^ 31) (hf : ∀ k, k < 9 → f k = nI (T k)) : ∀ k, k ≤ 9 → x_wsum f (nI P) k = nI (x_wN T P k) := by
  intro k
  induction k with
  | zero => intro _; rfl
  | succ k ih =>
    intro hk
    show x_wsum f (nI P) k + (if x_has (nI P) (nI k) = true then f k else 0) = nI (x_wN T P k + (if P.testBit k = true then T k else 0))
    rw [ih (by omega), x_has_n hP (by omega), hf k (by omega), ← nI_add]
    by_cases h : P.testBit k = true
    · rw [if_pos h, if_pos h]
    · rw [if_neg h, if_neg h]
      rfl
theorem x_wN_le {T : Nat → Nat} {P : Nat} (hT : ∀ k, k < 9 → T k ≤ 99) : ∀ k, k ≤ 9 → x_wN T P k ≤ 99 * k := by
  intro k
  induction k with
  | zero => intro _; exact Nat.le_refl 0
  | succ k ih =>
    intro hk
    have h1 := ih (by omega)
    have h2 := hT k (by omega)
    show x_wN T P k + (if P.testBit k = true then T k else 0) ≤ 99 * (k + 1)
    split <;> omega
theorem x_wN_9 {T : Nat → Nat} {P : Nat} (hT : ∀ k, k < 9 → T k ≤ 99) : x_wN T P 9 ≤ 891 := x_wN_le hT 9 (Nat.le_refl _)
section VIEW2
variable {xs : List Int32} {d : Nat} {S : x_M} {n : Nat} {L T : Nat → Nat}
theorem c_worC {P : Nat} (hV : x_VC S n L T) (hP : P < 512) : x_Cr xs (d + 1) 9 [.ref 12, .int (nI P)] S (nI (x_wN T P 9)) := by
  have h := c_worthOf (xs := xs) (d := d) (S := S) (g := 12) (P := nI P) (by decide)
  rw [show x_rr 12 0 = 13 from rfl, x_wsum_n (by omega) hV.2.1 9 (Nat.le_refl _)] at h
  exact h
theorem c_worM {P : Nat} (hV : x_VM S n L T) (hP : P < 512) : x_Cr xs (d + 2) 129 [.ref 56, .int (nI P)] S (nI (x_wN T P 9)) := by
  have h := c_worthOfM (xs := xs) (d := d) (S := S) (P := nI P)
  rw [x_wsum_n (f := fun k => S 57 (16 + k)) (by omega) hV.2.1 9 (Nat.le_refl _)] at h
  exact h
theorem c_lieC {c w : Nat} (hV : x_VC S n L T) (hn : n ≤ 14) (hc : c < n) (hw : w < 8) : x_Cr xs (d + 1) 8 [.ref 12, .int (nI c), .int (nI w)] S (nI (L (8 * c + w))) := by
  have h := c_lie (xs := xs) (d := d) (S := S) (g := 12) (c := c) (w := w) (by decide) (by omega) hw
  rw [show (12 : Nat) + 2 = 14 from rfl, hV.2.2 (8 * c + w) (by omega)] at h
  exact h
theorem x_VC_c {S' : x_M} (h : ∀ p k, (p = 12 ∧ k = 5) ∨ p = 13 ∨ p = 14 → S' p k = S p k) (hV : x_VC S n L T) : x_VC S' n L T :=
  ⟨by rw [h 12 5 (by omega)]; exact hV.1, fun k hk => by rw [h 13 k (by omega)]; exact hV.2.1 k hk, fun v hv => by rw [h 14 v (by omega)]; exact hV.2.2 v hv⟩
theorem x_VM_c {S' : x_M} (h : ∀ p k, p = 57 ∨ p = 66 → S' p k = S p k) (hV : x_VM S n L T) : x_VM S' n L T :=
  ⟨by rw [h 57 1 (by omega)]; exact hV.1, fun k hk => by rw [h 57 (16 + k) (by omega)]; exact hV.2.1 k hk, fun v hv => by rw [h 66 v (by omega)]; exact hV.2.2 v hv⟩
end VIEW2
/-! MEAN -/
def x_mws (L T : Nat → Nat) (o sh : Nat) : Nat → Nat
  | 0 => 0
  | v + 1 => x_mws L T o sh v + (if o.testBit (v / 8) = true then x_wN T (sh &&& L v) 9 else 0)
theorem x_mws_le {L T : Nat → Nat} {o sh : Nat} (hT : ∀ k, k < 9 → T k ≤ 99) : ∀ k, x_mws L T o sh k ≤ 891 * k := by
  intro k
  induction k with
  | zero => exact Nat.le_refl 0
  | succ k ih =>
    have h2 := x_wN_9 (P := sh &&& L k) hT
    show x_mws L T o sh k + (if o.testBit (k / 8) = true then x_wN T (sh &&& L k) 9 else 0) ≤ _
    split <;> omega
theorem x_mws_0 {L T : Nat → Nat} {o sh c : Nat} (h : ¬ o.testBit c = true) : ∀ j, j ≤ 8 → x_mws L T o sh (8 * c + j) = x_mws L T o sh (8 * c) := by
  intro j
  induction j with
  | zero => intro _; rfl
  | succ j ih =>
    intro hj
    show x_mws L T o sh (8 * c + j) + (if o.testBit ((8 * c + j) / 8) = true then x_wN T (sh &&& L (8 * c + j)) 9 else 0) = _
    rw [ih (by omega), show (8 * c + j) / 8 = c by omega, if_neg h, Nat.add_zero]
/-- how many plays there are -/
def x_mwc (o v : Nat) : Nat := 8 * x_pop o (v / 8) + (if o.testBit (v / 8) = true then v % 8 else 0)
theorem x_mwc_s (o v : Nat) : x_mwc o (v + 1) = x_mwc o v + (if o.testBit (v / 8) = true then 1 else 0) := by
  unfold x_mwc
  by_cases h : v % 8 = 7
  · have e1 : (v + 1) / 8 = v / 8 + 1 := by omega
    have e2 : (v + 1) % 8 = 0 := by omega
    rw [e1, e2, x_pop_s, h]
    by_cases h1 : o.testBit (v / 8) = true
    · rw [if_pos h1]
      split <;> omega
    · rw [if_neg h1]
      split <;> omega
  · have e1 : (v + 1) / 8 = v / 8 := by omega
    have e2 : (v + 1) % 8 = v % 8 + 1 := by omega
    rw [e1, e2]
    by_cases h1 : o.testBit (v / 8) = true
    · rw [if_pos h1, if_pos h1, if_pos h1]; omega
    · rw [if_neg h1, if_neg h1, if_neg h1]
theorem x_pop_n {o n : Nat} (hn : n ≤ 14) (ho : o < 2 ^ n) : x_pop o n = x_pop o 14 := by
  have key : ∀ j, n + j ≤ 14 → x_pop o (n + j) = x_pop o n := by
    intro j
    induction j with
    | zero => intro _; rfl
    | succ j ih =>
      intro hj
      rw [show n + (j + 1) = (n + j) + 1 by omega, x_pop_s, ih (by omega), if_neg, Nat.add_zero]
      rw [Nat.testBit_lt_two_pow (Nat.lt_of_lt_of_le ho (Nat.pow_le_pow_right (by omega) (by omega)))]
      decide
  have := key (14 - n) (by omega)
  rw [show n + (14 - n) = 14 by omega] at this
  exact this.symm
/-- a difference, without its sign: as the class has it, as the reference has it -/
theorem x_absd {a b : Nat} (ha : a < 2 ^ 31) (hb : b < 2 ^ 31) : ∃ m, m < 2 ^ 31 ∧ (if 0 ≤ nI a - nI b then nI a - nI b else 0 - (nI a - nI b)) = nI m ∧ ((0 ≤ nI a - nI b ∧ nI a - nI b = nI m) ∨ (¬ 0 ≤ nI a - nI b ∧ -(nI a - nI b) = nI m)) := by
  by_cases h : b ≤ a
  · rw [nI_sub h]
    have h0 : 0 ≤ nI (a - b) := nI_pos' (by omega)
    exact ⟨a - b, by omega, if_pos h0, Or.inl ⟨h0, rfl⟩⟩
  · have e : nI a - nI b = -(nI (b - a)) := by rw [← nI_sub (show a ≤ b by omega), Int32.neg_sub]
    have e2 : (nI a - nI b).toInt = (a : Int) - b := by
      have h1 := nI_toInt ha
      have h2 := nI_toInt hb
      rw [x_sub_i (by omega) (by omega), h1, h2]
    have h0 : ¬ 0 ≤ nI a - nI b := by
      rw [x_ge0, e2]
      omega
    refine ⟨b - a, by omega, ?_, Or.inr ⟨h0, by rw [e, Int32.neg_neg]⟩⟩
    rw [if_neg h0, e, Int32.zero_sub, Int32.neg_neg]
section MEAN
variable {xs : List Int32} {d : Nat} {S : x_M} {n : Nat} {L T : Nat → Nat}
theorem c_worthOfAll {o sh : Nat} (hV : x_VC S n L T) (hB : x_VB n L T) (ho : o < 2 ^ n) (hs : sh < 512) : x_Cr xs (d + 2) 74 [.ref 12, .int (nI o), .int (nI sh)] S (nI (x_mws L T o sh (8 * n))) := by
  have hn := hB.1
  have h2 := x_2n hn
  refine x_Ci_of (by rw [ml_74]; rfl) (T_74_0 (by decide) ?_)
  have loop : ∀ i c, c + i = n → ∀ a5 : Value, x_E xs (d + 2) 74 5 [.ref 12, .int (nI o), .int (nI sh), .int (nI (x_mws L T o sh (8 * c))), .int (nI c), a5] [] S (fun r S' => ∃ v : Int32, r = some (.int v) ∧ v = nI (x_mws L T o sh (8 * n)) ∧ S' = S) := by
    intro i
    induction i with
    | zero =>
      intro c hc a5
      refine T_74_5 (by decide) ?_
      rw [hV.1, if_pos (nI_le (by omega) (by omega)), show c = n by omega]
      exact ⟨_, rfl, rfl, rfl⟩
    | succ i ih =>
      intro c hc a5
      refine T_74_5 (by decide) ?_
      rw [hV.1, if_neg (nI_ge (by omega) (by omega)), x_bt_n (by omega) (by omega), x_bit01]
      have hi := ih (c + 1) (by omega)
      rw [nI_succ] at hi
      by_cases hb : o.testBit c = true
      · rw [if_pos hb, if_neg (by decide)]
        have inner : ∀ j w, w + j = 8 → x_E xs (d + 2) 74 29 [.ref 12, .int (nI o), .int (nI sh), .int (nI (x_mws L T o sh (8 * c + w))), .int (nI c), .int (nI w)] [] S (fun r S' => ∃ v : Int32, r = some (.int v) ∧ v = nI (x_mws L T o sh (8 * n)) ∧ S' = S) := by
          intro j
          induction j with
          | zero =>
            intro w hw
            refine T_74_29 (by decide) ?_
            rw [if_pos (by rw [show w = 8 by omega]; decide), show 8 * c + w = 8 * (c + 1) by omega]
            exact hi _
          | succ j ih2 =>
            intro w hw
            refine T_74_29 (by decide) ?_
            rw [if_neg (show ¬ (8 : Int32) ≤ nI w from nI_ge (b := 8) (by omega) (by decide))]
            refine x_rd (c_lieC hV hn (by omega) (by omega)) ?_
            rw [nI_and]
            refine x_rd (c_worC hV (Nat.lt_of_le_of_lt Nat.and_le_left hs)) ?_
            have hj := ih2 (w + 1) (by omega)
            rw [nI_succ, show 8 * c + (w + 1) = (8 * c + w) + 1 by omega] at hj
            have hx : x_mws L T o sh (8 * c + w + 1) = x_mws L T o sh (8 * c + w) + x_wN T (sh &&& L (8 * c + w)) 9 := by
              show x_mws L T o sh (8 * c + w) + (if o.testBit ((8 * c + w) / 8) = true then x_wN T (sh &&& L (8 * c + w)) 9 else 0) = _
              rw [show (8 * c + w) / 8 = c by omega, if_pos hb]
            rw [hx, ← nI_add] at hj
            exact hj
        exact inner 8 0 rfl
      · rw [if_neg hb, if_pos (by decide)]
        have hx := x_mws_0 (L := L) (T := T) (sh := sh) hb 8 (Nat.le_refl _)
        rw [show 8 * (c + 1) = 8 * c + 8 by omega, hx] at hi
        exact hi _
  exact loop n 0 (by omega) _
theorem c_shared {a b : Nat} (ha : a < 2 ^ 31) (hb : 0 < b) (hb2 : b ≤ 112) : x_Cr xs (d + 1) 75 [.int (nI a), .int (nI b)] S (nI (Nat.gcd b a)) := by
  refine x_Ci_of (by rw [ml_75]; rfl) (T_75_0 ?_)
  rw [if_neg (show ¬ nI b < 1 from nI_nlt (a := b) (b := 1) hb (by omega))]
  have loop : ∀ i low high, low = i → high < 2 ^ 31 → 0 < low → low ≤ 112 → Nat.gcd low high = Nat.gcd b a → ∀ (k : Nat) (a5 : Value), k + low ≤ 112 → x_E xs (d + 1) 75 11 [.int (nI a), .int (nI b), .int (nI high), .int (nI low), .int (nI k), a5] [] S (fun r S' => ∃ v : Int32, r = some (.int v) ∧ v = nI (Nat.gcd b a) ∧ S' = S) := by
    intro i
    induction i using Nat.strongRecOn with
    | ind i ih =>
      intro low high hi hh h0 h1 hg k a5 hk
      refine T_75_11 ?_
      rw [if_neg (show ¬ (1000 : Int32) ≤ nI k from nI_ge (b := 1000) (by omega) (by decide)), nI_rem hh (by omega)]
      refine ⟨nI_ne0 h0 (by omega), ?_⟩
      have hlt : high % low < low := Nat.mod_lt _ h0
      have hg2 : Nat.gcd (high % low) low = Nat.gcd low high := (Nat.gcd_rec low high).symm
      by_cases hz : high % low = 0
      · rw [if_pos (by rw [hz]; rfl)]
        refine ⟨_, rfl, ?_, rfl⟩
        rw [← hg, ← hg2, hz, Nat.gcd_zero_left]
      · rw [if_neg (nI_ne0 (by omega) (by omega)), ← nI_succ]
        exact ih (high % low) (by omega) (high % low) low rfl (by omega) (by omega) (by omega) (by rw [hg2, hg]) (k + 1) _ (by omega)
  exact loop b b a rfl ha hb hb2 rfl 0 _ (by omega)
theorem c_divisor {b m : Nat} {a : Int32} (hm : m < 2 ^ 31) (hb2 : b ≤ 112) (ha : (0 ≤ a ∧ a = nI m) ∨ (¬ 0 ≤ a ∧ -a = nI m)) : x_Cr xs (d + 1) 144 [.int a, .int (nI b)] S (nI (Nat.gcd b m)) := by
  refine x_Ci_of (by rw [ml_144]; rfl) (T_144_0 ?_)
  have loop : ∀ i y x, y = i → x < 2 ^ 31 → y ≤ 112 → Nat.gcd y x = Nat.gcd b m → ∀ a5 : Value, x_E xs (d + 1) 144 13 [.int a, .int (nI b), .int (nI x), .int (nI y), a5] [] S (fun r S' => ∃ v : Int32, r = some (.int v) ∧ v = nI (Nat.gcd b m) ∧ S' = S) := by
    intro i
    induction i using Nat.strongRecOn with
    | ind i ih =>
      intro y x hi hx hy hg a5
      refine T_144_13 ?_
      by_cases hz : y = 0
      · rw [if_pos (by rw [hz]; rfl)]
        refine ⟨_, rfl, ?_, rfl⟩
        rw [← hg, hz, Nat.gcd_zero_left]
      · have hne : ¬ nI y = 0 := nI_ne0 (by omega) (by omega)
        rw [if_neg hne, nI_rem hx (by omega)]
        refine ⟨hne, ?_⟩
        have hlt : x % y < y := Nat.mod_lt _ (by omega)
        exact ih (x % y) (by omega) (x % y) y rfl (by omega) (by omega) (by rw [(Nat.gcd_rec y x).symm, hg]) _
  rcases ha with ⟨h1, h2⟩ | ⟨h1, h2⟩
  · rw [if_pos h1]
    have := loop b b m rfl hm hb2 rfl .null
    rw [← h2] at this
    exact this
  · rw [if_neg h1, h2]
    exact loop b b m rfl hm hb2 rfl .null
theorem c_meanSum {o sh ow : Nat} {a1 a2 a3 : Int32} {Q : Option Value → x_M → Prop} (hV : x_VM S n L T) (hB : x_VB n L T) (ho : o < 2 ^ n) (hs : sh < 512)
    (k : x_E xs (d + 3) 143 109 [.ref 56, .int a1, .int a2, .int a3, .int (nI sh), .int (nI ow), .int (nI o), .int (nI (x_mws L T o sh (8 * n))), .int (nI (x_mwc o (8 * n))), .int (nI (8 * n)), .null, .null] [] S Q) : x_E xs (d + 3) 143 109 [.ref 56, .int a1, .int a2, .int a3, .int (nI sh), .int (nI ow), .int (nI o), .int 0, .int 0, .int 0, .null, .null] [] S Q := by
  have hn := hB.1
  have h2 := x_2n hn
  have loop : ∀ i v, v + i = 8 * n → x_E xs (d + 3) 143 109 [.ref 56, .int a1, .int a2, .int a3, .int (nI sh), .int (nI ow), .int (nI o), .int (nI (x_mws L T o sh v)), .int (nI (x_mwc o v)), .int (nI v), .null, .null] [] S Q := by
    intro i
    induction i with
    | zero =>
      intro v hv
      rw [show v = 8 * n by omega]
      exact k
    | succ i ih =>
      intro v hv
      refine T_143_109 ?_
      rw [hV.1, show (8 : Int32) * nI n = nI (8 * n) from nI_mul 8 n, if_neg (nI_ge (by omega) (by omega)), show nI v / 8 = nI (v / 8) from nI_div (b := 8) (by omega) (by omega)]
      refine x_rd c_has ?_
      rw [x_has_n (by omega) (by omega)]
      have hi := ih (v + 1) (by omega)
      rw [x_mwc_s, nI_succ] at hi
      have hx : x_mws L T o sh (v + 1) = x_mws L T o sh v + (if o.testBit (v / 8) = true then x_wN T (sh &&& L v) 9 else 0) := rfl
      rw [hx] at hi
      by_cases hb : o.testBit (v / 8) = true
      · rw [if_pos hb, if_pos hb, ← nI_add, nI_succ] at hi
        rw [if_neg (x_b_ne hb)]
        refine ⟨x_ib_n (by omega) (by decide), ?_⟩
        rw [nI_clamp (by omega), hV.2.2 v (by omega), nI_and]
        exact x_rd (c_worM hV (Nat.lt_of_le_of_lt Nat.and_le_left hs)) hi
      · rw [if_neg hb, if_neg hb] at hi
        rw [if_pos (x_b_0.mpr hb)]
        exact hi
  have h0 := loop (8 * n) 0 (by omega)
  rw [show x_mwc o 0 = 0 by unfold x_mwc; rw [show 0 / 8 = 0 from rfl, show 0 % 8 = 0 from rfl]; split <;> rfl] at h0
  exact h0
end MEAN
