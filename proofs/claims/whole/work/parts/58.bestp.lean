/-! BEST: what it comes to, by numbers only. A state: what shows, the hand, the cards left of both -/
abbrev x_Bs : Type := Nat × Nat × Nat × Nat
def x_bS (B : x_Bs) : Nat := B.1
def x_bH (B : x_Bs) : Nat := B.2.1
def x_b0 (B : x_Bs) : Nat := B.2.2.1
def x_b1 (B : x_Bs) : Nat := B.2.2.2
def x_bh (B : x_Bs) : Nat := if x_bH B = 0 then x_b0 B else x_b1 B
def x_bo (B : x_Bs) : Nat := if x_bH B = 0 then x_b1 B else x_b0 B
def x_bnx (L : Nat → Nat) (v : Nat) (B : x_Bs) : x_Bs :=
  (if x_bS B &&& L v = 0 then 511 else x_bS B &&& L v, if x_bo B = 0 then x_bH B else 1 - x_bH B, if x_bH B = 0 then x_cl0 (x_b0 B) (v / 8) else x_b0 B, if x_bH B = 0 then x_b1 B else x_cl0 (x_b1 B) (v / 8))
def x_opt (V : Nat → Option Int) : Nat → Option (Int × Nat)
  | 0 => none
  | k + 1 => match V k with
    | none => x_opt V k
    | some e => match x_opt V k with
      | none => some (e, k)
      | some (b, q) => if b < e then some (e, k) else some (b, q)
def x_val (o : Option (Int × Nat)) : Int := match o with
  | none => 0
  | some (b, _) => b
/-- what a play leads to -/
def x_lv (L T : Nat → Nat) (G : x_Bs → Option (Int × Nat)) (B : x_Bs) (v : Nat) : Option Int := if (x_bh B).testBit (v / 8) = true then some ((x_wN T (x_bS B &&& L v) 9 : Int) + (if x_bH (x_bnx L v B) = x_bH B then x_val (G (x_bnx L v B)) else -(x_val (G (x_bnx L v B))))) else none
def x_ld (L T : Nat → Nat) (n : Nat) : Nat → x_Bs → Option (Int × Nat)
  | 0, _ => none
  | f + 1, B => x_opt (x_lv L T (x_ld L T n f) B) (8 * n)
theorem x_opt_n {V : Nat → Option Int} {k : Nat} (h : V k = none) : x_opt V (k + 1) = x_opt V k := by
  show (match V k with | none => x_opt V k | some e => _) = _
  rw [h]
theorem x_opt_0 {V : Nat → Option Int} {k : Nat} {e : Int} (h : V k = some e) (h2 : x_opt V k = none) : x_opt V (k + 1) = some (e, k) := by
  show (match V k with | none => x_opt V k | some e => match x_opt V k with | none => some (e, k) | some (b, q) => if b < e then some (e, k) else some (b, q)) = _
  rw [h, h2]
theorem x_opt_s {V : Nat → Option Int} {k q : Nat} {e b : Int} (h : V k = some e) (h2 : x_opt V k = some (b, q)) : x_opt V (k + 1) = if b < e then some (e, k) else some (b, q) := by
  show (match V k with | none => x_opt V k | some e => match x_opt V k with | none => some (e, k) | some (b, q) => if b < e then some (e, k) else some (b, q)) = _
  rw [h, h2]
theorem x_opt_skip {V : Nat → Option Int} {a : Nat} : ∀ j, (∀ v, a ≤ v → v < a + j → V v = none) → x_opt V (a + j) = x_opt V a := by
  intro j
  induction j with
  | zero => intro _; rfl
  | succ j ih =>
    intro h
    rw [← Nat.add_assoc, x_opt_n (h (a + j) (by omega) (by omega))]
    exact ih (fun v h1 h2 => h v h1 (by omega))
theorem x_opt_some {V : Nat → Option Int} {v : Nat} {e : Int} (h : V v = some e) : ∀ k, v < k → ∃ p, x_opt V k = some p := by
  intro k
  induction k with
  | zero => intro hk; omega
  | succ k ih =>
    intro hk
    by_cases hv : v = k
    · subst hv
      cases h2 : x_opt V v with
      | none => exact ⟨_, x_opt_0 h h2⟩
      | some p =>
        obtain ⟨b, q⟩ := p
        rw [x_opt_s h h2]
        split
        · exact ⟨_, rfl⟩
        · exact ⟨_, rfl⟩
    · obtain ⟨⟨b, q⟩, hp⟩ := ih (by omega)
      cases h3 : V k with
      | none => rw [x_opt_n h3]; exact ⟨_, hp⟩
      | some e2 =>
        rw [x_opt_s h3 hp]
        split
        · exact ⟨_, rfl⟩
        · exact ⟨_, rfl⟩
theorem x_opt_b {V : Nat → Option Int} {M : Int} (h : ∀ v e, V v = some e → -M ≤ e ∧ e ≤ M) : ∀ k b q, x_opt V k = some (b, q) → -M ≤ b ∧ b ≤ M ∧ q < k := by
  intro k
  induction k with
  | zero => intro b q hb; cases hb
  | succ k ih =>
    intro b q hb
    cases h3 : V k with
    | none =>
      rw [x_opt_n h3] at hb
      have := ih b q hb
      omega
    | some e =>
      have he := h k e h3
      cases h2 : x_opt V k with
      | none =>
        rw [x_opt_0 h3 h2] at hb
        cases hb
        omega
      | some p =>
        obtain ⟨b2, q2⟩ := p
        have := ih b2 q2 h2
        rw [x_opt_s h3 h2] at hb
        by_cases hc : b2 < e
        · rw [if_pos hc] at hb
          cases hb
          omega
        · rw [if_neg hc] at hb
          cases hb
          omega
theorem x_val_b {L T : Nat → Nat} {n : Nat} (hT : ∀ k, k < 9 → T k ≤ 99) : ∀ (f : Nat) (B : x_Bs), -(891 * (f : Int)) ≤ x_val (x_ld L T n f B) ∧ x_val (x_ld L T n f B) ≤ 891 * (f : Int) := by
  intro f
  induction f with
  | zero => intro B; exact ⟨by show -(891 * ((0 : Nat) : Int)) ≤ 0; omega, by show (0 : Int) ≤ 891 * ((0 : Nat) : Int); omega⟩
  | succ f ih =>
    intro B
    have key : ∀ v e, x_lv L T (x_ld L T n f) B v = some e → -(891 * ((f + 1 : Nat) : Int)) ≤ e ∧ e ≤ 891 * ((f + 1 : Nat) : Int) := by
      intro v e he
      unfold x_lv at he
      by_cases hb : (x_bh B).testBit (v / 8) = true
      · rw [if_pos hb] at he
        have h1 := ih (x_bnx L v B)
        have h2 := x_wN_9 (P := x_bS B &&& L v) hT
        simp only [Option.some.injEq] at he
        subst he
        split <;> omega
      · rw [if_neg hb] at he
        cases he
    show -(891 * ((f + 1 : Nat) : Int)) ≤ x_val (x_opt (x_lv L T (x_ld L T n f) B) (8 * n)) ∧ x_val (x_opt (x_lv L T (x_ld L T n f) B) (8 * n)) ≤ 891 * ((f + 1 : Nat) : Int)
    cases h2 : x_opt (x_lv L T (x_ld L T n f) B) (8 * n) with
    | none => show _ ≤ (0 : Int) ∧ (0 : Int) ≤ _; omega
    | some p =>
      obtain ⟨b, q⟩ := p
      have := x_opt_b key _ _ _ h2
      exact ⟨this.1, this.2.1⟩
/-- a state of f cards in all that can be -/
def x_BW (n f : Nat) (B : x_Bs) : Prop := x_bS B < 512 ∧ x_bH B < 2 ∧ x_b0 B < 2 ^ n ∧ x_b1 B < 2 ^ n ∧ x_pop (x_b0 B) 14 + x_pop (x_b1 B) 14 = f ∧ (f = 0 ∨ ¬ x_bh B = 0)
theorem x_pop_cl {l c : Nat} (h : l.testBit c = true) : ∀ k, x_pop (x_cl0 l c) k + (if c < k then 1 else 0) = x_pop l k ∨ 32 < k := by
  intro k
  induction k with
  | zero => exact Or.inl (by rw [if_neg (by omega)]; rfl)
  | succ k ih =>
    by_cases hk : 32 < k + 1
    · exact Or.inr hk
    · refine Or.inl ?_
      rcases ih with ih | ih
      · rw [x_pop_s, x_pop_s, x_cl0_bit (by omega)]
        by_cases hc : k = c
        · subst hc
          rw [if_neg (by omega)] at ih
          rw [if_pos (show k < k + 1 by omega), if_pos h, if_neg (by simp)]
          omega
        · have e : (l.testBit k && !decide (k = c)) = l.testBit k := by rw [decide_eq_false hc]; simp
          rw [e]
          by_cases hck : c < k
          · rw [if_pos hck] at ih
            rw [if_pos (show c < k + 1 by omega)]
            omega
          · rw [if_neg hck] at ih
            rw [if_neg (show ¬ c < k + 1 by omega)]
            omega
      · omega
theorem x_bh_lt {n f : Nat} {B : x_Bs} (h : x_BW n f B) : x_bh B < 2 ^ n := by
  unfold x_bh
  split
  · exact h.2.2.1
  · exact h.2.2.2.1
theorem x_BW_nx {L : Nat → Nat} {n f v : Nat} {B : x_Bs} (hn : n ≤ 14) (h : x_BW n (f + 1) B) (hb : (x_bh B).testBit (v / 8) = true) : x_BW n f (x_bnx L v B) := by
  have hlt := x_bit_lt (x_bh_lt h) hb
  obtain ⟨h1, h2, h3, h4, h5, h6⟩ := h
  have h2n := x_2n hn
  refine ⟨?_, ?_, ?_, ?_, ?_, ?_⟩
  · show (if x_bS B &&& L v = 0 then 511 else x_bS B &&& L v) < 512
    split
    · omega
    · exact Nat.lt_of_le_of_lt Nat.and_le_left h1
  · show (if x_bo B = 0 then x_bH B else 1 - x_bH B) < 2
    split <;> omega
  · show (if x_bH B = 0 then x_cl0 (x_b0 B) (v / 8) else x_b0 B) < 2 ^ n
    split
    · exact x_cl0_lt h3
    · exact h3
  · show (if x_bH B = 0 then x_b1 B else x_cl0 (x_b1 B) (v / 8)) < 2 ^ n
    split
    · exact h4
    · exact x_cl0_lt h4
  · show x_pop (if x_bH B = 0 then x_cl0 (x_b0 B) (v / 8) else x_b0 B) 14 + x_pop (if x_bH B = 0 then x_b1 B else x_cl0 (x_b1 B) (v / 8)) 14 = f
    unfold x_bh at hb
    by_cases hh : x_bH B = 0
    · rw [if_pos hh] at hb
      rw [if_pos hh, if_pos hh]
      have := x_pop_cl hb 14
      rw [if_pos (by omega)] at this
      omega
    · rw [if_neg hh] at hb
      rw [if_neg hh, if_neg hh]
      have := x_pop_cl hb 14
      rw [if_pos (by omega)] at this
      omega
  · have hpop : x_pop (x_b0 (x_bnx L v B)) 14 + x_pop (x_b1 (x_bnx L v B)) 14 = f := by
      show x_pop (if x_bH B = 0 then x_cl0 (x_b0 B) (v / 8) else x_b0 B) 14 + x_pop (if x_bH B = 0 then x_b1 B else x_cl0 (x_b1 B) (v / 8)) 14 = f
      unfold x_bh at hb
      by_cases hh : x_bH B = 0
      · rw [if_pos hh] at hb
        rw [if_pos hh, if_pos hh]
        have := x_pop_cl hb 14
        rw [if_pos (by omega)] at this
        omega
      · rw [if_neg hh] at hb
        rw [if_neg hh, if_neg hh]
        have := x_pop_cl hb 14
        rw [if_pos (by omega)] at this
        omega
    by_cases hf : f = 0
    · exact Or.inl hf
    · refine Or.inr ?_
      intro hz
      have hz : (if (if x_bo B = 0 then x_bH B else 1 - x_bH B) = 0 then (if x_bH B = 0 then x_cl0 (x_b0 B) (v / 8) else x_b0 B) else (if x_bH B = 0 then x_b1 B else x_cl0 (x_b1 B) (v / 8))) = 0 := hz
      have hpop : x_pop (if x_bH B = 0 then x_cl0 (x_b0 B) (v / 8) else x_b0 B) 14 + x_pop (if x_bH B = 0 then x_b1 B else x_cl0 (x_b1 B) (v / 8)) 14 = f := hpop
      unfold x_bo at hz
      rcases (by omega : x_bH B = 0 ∨ x_bH B = 1) with hh | hh
      · rw [if_pos hh, if_pos hh] at hpop
        rw [if_pos hh, if_pos hh, if_pos hh] at hz
        by_cases ho : x_b1 B = 0
        · rw [if_pos ho, if_pos hh] at hz
          rw [hz, ho] at hpop
          exact hf (by rw [← hpop]; decide)
        · rw [if_neg ho, if_neg (by omega)] at hz
          exact ho hz
      · have hne : ¬ x_bH B = 0 := by omega
        rw [if_neg hne, if_neg hne] at hpop
        rw [if_neg hne, if_neg hne, if_neg hne] at hz
        by_cases ho : x_b0 B = 0
        · rw [if_pos ho, if_neg hne] at hz
          rw [hz, ho] at hpop
          exact hf (by rw [← hpop]; decide)
        · rw [if_neg ho, if_pos (by omega)] at hz
          exact ho hz
/-- as long as there are cards, there is a best play -/
theorem x_ld_some {L T : Nat → Nat} {n f : Nat} {B : x_Bs} (hn : n ≤ 14) (h : x_BW n (f + 1) B) : ∃ b q, x_ld L T n (f + 1) B = some (b, q) ∧ q < 8 * n := by
  have hlt := x_bh_lt h
  have h2n := x_2n hn
  have hne : ¬ x_bh B = 0 := by
    rcases h.2.2.2.2.2 with h1 | h1
    · omega
    · exact h1
  have hp : ¬ x_pop (x_bh B) 14 = 0 := fun z => hne ((x_pop_0 (by omega)).mp z)
  obtain ⟨c, h1, h2, _⟩ := x_nth_ex (l := x_bh B) (k := 0) 14 (by omega)
  have hc := x_bit_lt hlt h2
  obtain ⟨⟨b, q⟩, hb⟩ := x_opt_some (V := x_lv L T (x_ld L T n f) B) (v := 8 * c) (by unfold x_lv; rw [show 8 * c / 8 = c by omega, if_pos h2]) (8 * n) (by omega)
  refine ⟨b, q, hb, ?_⟩
  have key : ∀ k b q, x_opt (x_lv L T (x_ld L T n f) B) k = some (b, q) → q < k := by
    intro k
    induction k with
    | zero => intro b q hb; cases hb
    | succ k ih =>
      intro b q hb
      cases h3 : x_lv L T (x_ld L T n f) B k with
      | none =>
        rw [x_opt_n h3] at hb
        have := ih b q hb
        omega
      | some e =>
        cases h2 : x_opt (x_lv L T (x_ld L T n f) B) k with
        | none =>
          rw [x_opt_0 h3 h2] at hb
          cases hb
          omega
        | some p =>
          obtain ⟨b2, q2⟩ := p
          have := ih b2 q2 h2
          rw [x_opt_s h3 h2] at hb
          by_cases hc : b2 < e
          · rw [if_pos hc] at hb
            cases hb
            omega
          · rw [if_neg hc] at hb
            cases hb
            omega
  exact key _ _ _ hb
/-! whole numbers -/
def iI (z : Int) : Int32 := Int32.ofInt z
theorem iI_n (n : Nat) : nI n = iI n := (Int32.ofInt_eq_ofNat (n := n)).symm
theorem iI_toInt {z : Int} (h1 : -100000 ≤ z) (h2 : z ≤ 100000) : (iI z).toInt = z := Int32.toInt_ofInt_of_le (by omega) (by omega)
theorem iI_le {a b : Int} (h1 : -100000 ≤ a) (h2 : a ≤ 100000) (h3 : -100000 ≤ b) (h4 : b ≤ 100000) : iI a ≤ iI b ↔ a ≤ b := by
  rw [Int32.le_iff_toInt_le, iI_toInt h1 h2, iI_toInt h3 h4]
theorem iI_add (a b : Int) : iI a + iI b = iI (a + b) := (Int32.ofInt_add a b).symm
theorem iI_neg (a : Int) : -iI a = iI (-a) := (Int32.ofInt_neg a).symm
