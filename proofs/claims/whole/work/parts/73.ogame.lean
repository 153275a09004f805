theorem t_lf_bit {dc : Nat → Nat} {h j : Nat} : ∀ m, (t_lf dc h m).testBit j = true → j < m ∧ dc j = h := by
  intro m
  induction m with
  | zero =>
    intro z
    have z : (0 : Nat).testBit j = true := z
    rw [Nat.zero_testBit] at z
    exact absurd z (by decide)
  | succ m ih =>
    intro z
    have z : (t_lf dc h m ||| (if dc m = h then 2 ^ m else 0)).testBit j = true := z
    rw [Nat.testBit_or, Bool.or_eq_true] at z
    rcases z with z | z
    · have := ih z
      exact ⟨by omega, this.2⟩
    · by_cases hm : dc m = h
      · rw [if_pos hm, Nat.testBit_two_pow, decide_eq_true_eq] at z
        rw [← z]
        exact ⟨by omega, hm⟩
      · rw [if_neg hm, Nat.zero_testBit] at z
        exact absurd z (by decide)
theorem t_A_w {tp : Nat → Nat} {n : Nat} : x_AW (t_game tp n).2.2 (t_A tp n) := by
  refine ⟨⟨511, by omega, rfl⟩, t_lf_lt _, t_lf_lt _, ?_, ?_, ?_⟩
  · apply Nat.eq_of_testBit_eq
    intro j
    rw [Nat.zero_testBit, Nat.testBit_and]
    cases h0 : (x_Al0 (t_A tp n)).testBit j with
    | false => rfl
    | true =>
      cases h1 : (x_Al1 (t_A tp n)).testBit j with
      | false => rfl
      | true =>
        have a0 := (t_lf_bit _ h0).2
        have a1 := (t_lf_bit _ h1).2
        rw [a0] at a1
        exact absurd a1 (by decide)
  · show (if t_l tp n 0 = 0 then 1 else 0) < 2
    split <;> omega
  · have eh : x_Ah (t_A tp n) = if t_l tp n 0 = 0 then 1 else 0 := rfl
    by_cases h0 : t_l tp n 0 = 0
    · by_cases h1 : t_l tp n 1 = 0
      · exact Or.inl ⟨h0, h1⟩
      · refine Or.inr ?_
        rw [if_pos h0] at eh
        unfold x_hd
        rw [if_neg (by omega)]
        exact h1
    · refine Or.inr ?_
      rw [if_neg h0] at eh
      unfold x_hd
      rw [if_pos eh]
      exact h0
section OGAME
variable {xs : List Int32} {d : Nat} {S : x_M}
set_option maxHeartbeats 1000000 in
theorem o_game (H : x_Inv S) : x_Op xs (d + 8) 51 109 [] S := by
  obtain ⟨hR, ⟨n, hn, e10, e56, hby⟩, ⟨hG0, hG1, hG2⟩, hU, hBI, hFI⟩ := H
  have hC : t_C S (fun i => (S 11 i).toNatClampNeg) n := ⟨e10, fun i hi => by
    obtain ⟨_, b, hb, eb⟩ := hby i hi
    show S 11 i = nI (S 11 i).toNatClampNeg
    rw [eb, nI_clamp (by omega)]⟩
  have hB : t_B (fun i => (S 11 i).toNatClampNeg) n := ⟨hn, fun i hi => by
    obtain ⟨_, b, hb, eb⟩ := hby i hi
    show (S 11 i).toNatClampNeg < 256
    rw [eb, nI_clamp (by omega)]
    exact hb⟩
  have hM : t_M S (fun i => (S 11 i).toNatClampNeg) n := ⟨e56, fun i hi => by
    obtain ⟨e, b, hb, eb⟩ := hby i hi
    show S 58 i = nI (S 11 i).toNatClampNeg
    rw [e, eb, nI_clamp (by omega)]⟩
  generalize (fun i => (S 11 i).toNatClampNeg) = tp at hC hB hM
  refine x_Ci_weak (c_gameC hC hB) ?_
  rintro v S1 ⟨f10, fF, hor⟩
  have hM1 : t_M S1 tp n := t_M_c (fun p k hp => fF p k (by omega) (by omega) (by omega)) hM
  have hmm : (t_game tp n).1 = 0 → 1 ≤ (t_game tp n).2.2 ∧ (t_game tp n).2.2 ≤ 14 := by
    intro hz
    rcases hor with h | h
    · exact ⟨h.2.2.2.2.2.1, h.2.2.2.2.2.2.1⟩
    · exact absurd hz h.1
  refine x_Ci_weak (c_gameM (d := d + 2) hM1 hB hmm) ?_
  rintro w S2 ⟨m2, mF, mor⟩
  -- what no one touched
  have hF : ∀ p k, ¬ p = 10 → ¬ (12 ≤ p ∧ p ≤ 21) → ¬ (p = 8 ∧ k = 8) → ¬ (p = 56 ∧ (k = 2 ∨ k = 3 ∨ (10 ≤ k ∧ k ≤ 12) ∨ k = 16)) → ¬ (63 ≤ p ∧ p ≤ 66) → ¬ (p = 57 ∧ k < 33) → S2 p k = S p k := fun p k z1 z2 z3 z4 z5 z6 => by rw [mF p k z4 z5 z6]; exact fF p k z1 z2 z3
  have hTI : x_TI S2 := ⟨0, by omega, by rw [mF 10 1 (by omega) (by omega) (by omega)]; exact f10, m2, fun i hi => by omega⟩
  have hRI : ∀ r, r < 8 → x_RI S2 r := fun r hr => x_RI_c hr (fun p k hp => hF p k (by omega) (by omega) (by omega) (by omega) (by omega) (by omega)) (hR r hr)
  have hBI2 : x_BI S2 := x_BI_c (fun p k hp => hF p k (by omega) (by omega) (by omega) (by omega) (by omega) (by omega)) hBI
  have hG1' : x_GI S2 46 33 := x_GI_c (fun p k hp => hF p k (by omega) (by omega) (by omega) (by omega) (by omega) (by omega)) hG1
  have hG2' : x_GI S2 51 66 := x_GI_c (fun p k hp => hF p k (by omega) (by omega) (by omega) (by omega) (by omega) (by omega)) hG2
  rcases hor with ⟨hz, rfl, c8, c4, c5, hm1, hm14, cGC, ctab, clie⟩ | ⟨hz, rfl, c8, cF⟩
  · rcases mor with ⟨_, rfl, d3, d0, d1, dGM, dtab, dcard, dlie⟩ | ⟨hnz, _⟩
    case inr => exact absurd hz hnz
    refine ⟨rfl, hRI, hTI, ⟨?_, hG1', hG2'⟩, ?_, hBI2, ?_⟩
    · have k12 : ∀ p k, 12 ≤ p → p ≤ 16 → S2 p k = S1 p k := fun p k z1 z2 => mF p k (by omega) (by omega) (by omega)
      refine ⟨(t_game tp n).2.2, hm14, by rw [k12 12 5 (by omega) (by omega)]; exact c5, d1, Or.inr ⟨by rw [k12 12 4 (by omega) (by omega)]; exact c4, d0, hm1, x_GJ_of (A := t_A tp n) ⟨fun k hk => ?_, fun c hc => ⟨?_, fun w hw => ?_⟩⟩ ?_ dGM t_A_w⟩⟩
      · have a1 := ctab k hk
        have a2 := dtab k hk
        rw [k12 13 k (by omega) (by omega), show 0 + 16 + k = 16 + k by omega, a2, a1.1]
        exact ⟨rfl, t_tv tp n k, a1.2, rfl⟩
      · rw [show 0 + 2 + c = 2 + c by omega, dcard c hc]
        exact ⟨t_hol tp n c, t_hs_lt (tp := tp) 9, rfl⟩
      · rw [k12 14 _ (by omega) (by omega), show 0 + 2 + c = 2 + c by omega, dcard c hc]
        exact clie c w hc hw
      · obtain ⟨a1, a2, a3, a4, a5, a6, a7, a8⟩ := cGC
        exact ⟨(k12 12 6 (by omega) (by omega)).trans a1, (k12 12 7 (by omega) (by omega)).trans a2, (k12 12 8 (by omega) (by omega)).trans a3, (k12 12 9 (by omega) (by omega)).trans a4, (k12 15 0 (by omega) (by omega)).trans a5, (k12 15 1 (by omega) (by omega)).trans a6, (k12 16 0 (by omega) (by omega)).trans a7, (k12 16 1 (by omega) (by omega)).trans a8⟩
    · intro n' c w h1 h2 h3 h4
      rw [d1] at h2
      have hnn : (t_game tp n).2.2 = n' := (nI_eq (by omega) (by omega)).mp h2
      rw [dcard c (by omega)]
      exact dlie c w (by omega) h4
    · refine ⟨?_, ?_⟩
      · rw [mF 8 8 (by omega) (by omega) (by omega), c8, d3, fF 56 3 (by omega) (by omega) (by omega)]
        exact hFI.1
      · rw [hF 8 9 (by omega) (by omega) (by omega) (by omega) (by omega) (by omega), hF 56 4 (by omega) (by omega) (by omega) (by omega) (by omega) (by omega)]
        exact hFI.2
  · rcases mor with ⟨hz2, _⟩ | ⟨_, rfl, d3, dF⟩
    case inl => exact absurd hz2 hz
    have k57 : ∀ p k, p = 57 ∨ p = 66 → S2 p k = S p k := fun p k hp => by rw [dF p k hp]; exact fF p k (by omega) (by omega) (by omega)
    refine ⟨rfl, hRI, hTI, ⟨x_GI_c (fun p k hp => ?_) hG0, hG1', hG2'⟩, x_UI_c (fun p k hp => k57 p k (by omega)) hU, hBI2, ?_⟩
    · by_cases h57 : p = 57
      · exact k57 p k (Or.inl h57)
      · rw [mF p k (by omega) (by omega) (by omega)]
        exact cF p k (by omega) (by omega)
    · refine ⟨?_, ?_⟩
      · rw [mF 8 8 (by omega) (by omega) (by omega), c8, d3]
      · rw [hF 8 9 (by omega) (by omega) (by omega) (by omega) (by omega) (by omega), hF 56 4 (by omega) (by omega) (by omega) (by omega) (by omega) (by omega)]
        exact hFI.2
end OGAME
