section OBEST
variable {xs : List Int32} {d : Nat} {S : x_M} {n : Nat}
theorem x_ms_all {l0 l1 l size o0 o1 : Nat} {c : Nat → Nat} (H : x_OB l0 l1 n size c o0 o1) (hl : l < 2 ^ n) (h : ∀ q, l.testBit q = true → l0.testBit q = true ∨ l1.testBit q = true) : l &&& x_ms c (2 ^ size - 1) size = l := by
  apply Nat.eq_of_testBit_eq
  intro q
  rw [Nat.testBit_and]
  cases hq : l.testBit q with
  | false => rfl
  | true =>
    rw [Bool.true_and]
    obtain ⟨i, hi, e⟩ := H.2.2.1 q (x_bit_lt hl hq) (h q hq)
    refine (x_ms_bit size).mpr ⟨i, hi, ?_, e⟩
    rw [Nat.testBit_two_pow_sub_one]
    exact decide_eq_true hi
theorem c_firstState {size h sh : Nat} (hsz : size ≤ 4) (h3 : S 23 3 = nI size) (h8 : S 12 8 = nI h) (h6 : S 12 6 = nI sh) (hh : h < 2) (hs : sh < 512) : x_Cr xs (d + 2) 18 [.ref 23, .ref 12] S (nI (x_ix (2 ^ size - 1) h sh)) := by
  have h2s : 2 ^ size ≤ 2 ^ 4 := Nat.pow_le_pow_right (by omega) hsz
  have h0 : 0 < 2 ^ size := Nat.pow_pos (by omega)
  refine x_Ci_of (by rw [ml_18]; rfl) (T_18_0 (by decide) ?_)
  rw [h8, h3, h6, x_one_shl (by omega), show nI (2 ^ size) - 1 = nI (2 ^ size - 1) from nI_sub (b := 1) (by omega)]
  rcases (by omega : h = 0 ∨ h = 1) with rfl | rfl
  · rw [if_neg (by decide)]
    exact x_rd (c_stateOf (h := 0) (by omega) hs) (x_rt_i rfl)
  · rw [if_pos (by decide)]
    exact x_rd (c_stateOf (h := 1) (by omega) hs) (x_rt_i rfl)
theorem x_pop2 {l0 l1 : Nat} (b0 : l0 < 2 ^ 14) (b1 : l1 < 2 ^ 14) : x_pop l0 14 + x_pop l1 14 = 0 ↔ l0 = 0 ∧ l1 = 0 := by
  have h0 := x_pop_0 b0
  have h1 := x_pop_0 b1
  constructor
  · intro h
    exact ⟨h0.mp (by omega), h1.mp (by omega)⟩
  · rintro ⟨rfl, rfl⟩
    decide
set_option maxHeartbeats 1000000 in
theorem o_best {a : Int32} (H : x_Inv S) : x_Op xs (d + 8) 71 139 [.int a] S := by
  obtain ⟨n, n1, n2, n3, n4⟩ := x_view H
  rcases n4 with ⟨p1, p2, _⟩ | ⟨p1, p2, p3, p4⟩
  case inl =>
    refine x_Op_rd (v := -1000002) H ?_ ?_
    · refine x_Ci_of (by rw [ml_71]; rfl) (T_71_0 ?_)
      rw [if_pos p1]
      exact x_rt_i rfl
    · refine x_Ci_of (by rw [ml_139]; rfl) (T_139_0 ?_)
      rw [if_pos p2]
      exact x_rt_i rfl
  case inr =>
  by_cases he : 0 ≤ a ∧ a ≤ 1
  case neg =>
    refine x_Op_rd (v := -1000001) H ?_ ?_
    · refine x_Ci_of (by rw [ml_71]; rfl) (T_71_0 ?_)
      rw [p1, if_neg (by decide)]
      by_cases h2 : a < 0
      · rw [if_pos h2]
        exact x_rt_i rfl
      · rw [if_neg h2, if_neg (fun z => he ⟨Int32.not_lt.mp h2, z⟩)]
        exact x_rt_i rfl
    · refine x_Ci_of (by rw [ml_139]; rfl) (T_139_0 ?_)
      rw [p2, if_neg (by decide)]
      refine x_rd c_in ?_
      rw [x_inz1, if_pos (x_b_0.mpr (fun z => he (by rw [decide_eq_true_eq] at z; exact z)))]
      exact x_rt_i rfl
  case pos =>
  obtain ⟨L, T, hB, hC, hM⟩ := x_vw n1 n2 n3 p4
  obtain ⟨q1, q2, A, q3, q4, q5⟩ := p4
  obtain ⟨c1, c2, c3, c4, c5, c6, c7, c8⟩ := q3
  have q4' := q4
  obtain ⟨m1, m2, m3, m4, m5, m6, m7, m8⟩ := q4
  have q5' := q5
  obtain ⟨⟨sh, hsh, esh⟩, w2, w3, w4, w5, w6⟩ := q5
  have h2 := x_2n n1
  have e15 : S 15 0 = nI (x_Al0 A) := c5
  have e16 : S 15 1 = nI (x_Al1 A) := c6
  have hz := x_pop2 (l0 := x_Al0 A) (l1 := x_Al1 A) (by omega) (by omega)
  generalize hf : x_pop (x_Al0 A) 14 + x_pop (x_Al1 A) 14 = f at hz
  have hf28 : f ≤ 28 := by
    have := x_pop_le (l := x_Al0 A) 14
    have := x_pop_le (l := x_Al1 A) 14
    omega
  have e0 : a = 0 ∨ a = 1 := by
    obtain ⟨j, hj, rfl⟩ := x_le_nat (n := 1) (Int32.not_lt.mpr he.1) he.2 (by decide)
    rcases (by omega : j = 0 ∨ j = 1) with rfl | rfl
    · exact Or.inl rfl
    · exact Or.inr rfl
  by_cases hf4 : f = 0 ∨ 4 < f
  case pos =>
    refine x_Op_rd (v := -1000000) H ?_ ?_
    · refine x_Ci_of (by rw [ml_71]; rfl) (T_71_0 ?_)
      rw [p1, if_neg (by decide), if_neg (Int32.not_lt.mpr he.1), if_pos he.2]
      refine x_rd (c_cardsLeft e15 e16 (by omega) (by omega)) ?_
      rw [hf]
      by_cases hf0 : f = 0
      · rw [if_pos (by rw [hf0]; decide)]
        exact x_rt_i rfl
      · rw [if_neg (nI_ne0 (by omega) (by omega)), if_neg (show ¬ nI f ≤ 4 from nI_ge (a := 4) (by omega) (by omega))]
        exact x_rt_i rfl
    · refine x_Ci_of (by rw [ml_139]; rfl) (T_139_0 ?_)
      rw [p2, if_neg (by decide)]
      refine x_rd c_in ?_
      rw [x_inz1, if_neg (x_b_ne (by rw [decide_eq_true_eq]; exact he))]
      refine x_rd (c_isOver q4' q5' n1) ?_
      by_cases hf0 : f = 0
      · rw [if_neg (x_b_ne (by rw [decide_eq_true_eq]; exact hz.mp hf0))]
        exact x_rt_i rfl
      · rw [if_pos (x_b_0.mpr (fun z => hf0 (hz.mpr (by rw [decide_eq_true_eq] at z; exact z)))), show S 57 30 = nI (x_Al0 A) from m6]
        refine x_rd (c_bits (by omega)) ?_
        rw [show S 57 31 = nI (x_Al1 A) from m7]
        refine x_rd (c_bits (by omega)) ?_
        rw [nI_add, hf, if_neg (show ¬ nI f ≤ 4 from nI_ge (a := 4) (by omega) (by omega))]
        exact x_rt_i rfl
  case neg =>
  have hf0 : ¬ f = 0 := fun z => hf4 (Or.inl z)
  have hfle : f ≤ 4 := by omega
  have hne : ¬ (x_Al0 A = 0 ∧ x_Al1 A = 0) := fun z => hf0 (hz.mpr z)
  have hW : x_BW n f (sh, x_Ah A, x_Al0 A, x_Al1 A) := by
    refine ⟨hsh, w5, w2, w3, hf, Or.inr ?_⟩
    rcases w6 with w6 | w6
    · exact absurd w6 hne
    · exact w6
  obtain ⟨g, rfl⟩ : ∃ g, f = g + 1 := ⟨f - 1, by omega⟩
  obtain ⟨b, q, hbq, _⟩ := x_ld_some (L := L) (T := T) n1 hW
  -- the class
  have hcl : x_Ci xs (d + 8) 71 [.ref 8, .int a] S (fun r S' => r = (if a = 0 then iI b else nI q) ∧ ∀ p j, ¬ (23 ≤ p ∧ p ≤ 26) → S' p j = S p j) := by
    refine x_Ci_of (by rw [ml_71]; rfl) (T_71_0 ?_)
    rw [p1, if_neg (by decide), if_neg (Int32.not_lt.mpr he.1), if_pos he.2]
    refine x_rd (c_cardsLeft e15 e16 (by omega) (by omega)) ?_
    rw [hf, if_neg (nI_ne0 (by omega) (by omega)), if_pos (show nI (g + 1) ≤ 4 from nI_le (b := 4) hfle (by decide))]
    refine ⟨_, c_openB n1 n2 w2 w3 w4 e15 e16 (by omega), ?_⟩
    rintro S2 ⟨⟨size, c, o0, o1, hO, hS⟩, hU, hF⟩
    have hsz : size ≤ 4 := by
      have e := hO.2.2.2.2.2.2
      have m0 := x_pop_mono (l := x_Al0 A) (j := n) 14 (by omega)
      have m1 := x_pop_mono (l := x_Al1 A) (j := n) 14 (by omega)
      omega
    have h2s : 2 ^ size ≤ 2 ^ 4 := Nat.pow_le_pow_right (by omega) hsz
    have h20 : 0 < 2 ^ size := Nat.pow_pos (by omega)
    refine x_rd (c_firstState hsz hS.1 (by rw [hF 12 8 (by omega) (by omega)]; exact c3.trans (x_tu_n hne)) (by rw [hF 12 6 (by omega) (by omega)]; exact c1.trans esh) w5 hsh) ?_
    have hroot : x_BmS (x_Al0 A) (x_Al1 A) size c (2 ^ size - 1) (x_Ah A) sh = (sh, x_Ah A, x_Al0 A, x_Al1 A) := by
      unfold x_BmS
      rw [x_ms_all hO w2 (fun q h => Or.inl h), x_ms_all hO w3 (fun q h => Or.inr h)]
    have hle := c_lead (xs := xs) (d := d + 4 - (g + 1)) hB hO hsz w2 w3 w4 (g + 1) (2 ^ size - 1) (x_Ah A) sh S2 hfle (by omega) w5 hsh (by rw [hroot]; exact hW) (x_VC_c (fun p j hp => hF p j (by omega) (by omega)) hC) hS (fun m h s hm hh hs => Or.inl (hU _ (x_ix_lt (by omega) hh hs)))
    rw [show d + 4 - (g + 1) + (g + 1) + 3 = d + 7 by omega, hroot, hbq] at hle
    refine ⟨_, hle, ?_⟩
    rintro v S4 ⟨rfl, _, hF4, hfb⟩
    have hfr : ∀ p j, ¬ (23 ≤ p ∧ p ≤ 26) → S4 p j = S p j := fun p j z => by rw [hF4 p j (by omega) (by omega)]; exact hF p j (by omega) (by omega)
    rcases e0 with rfl | rfl
    · rw [if_pos rfl, if_pos rfl]
      exact ⟨_, rfl, rfl, hfr⟩
    · rw [if_neg (by decide), if_neg (by decide), hfb (by omega) (hU _ (x_ix_lt (by omega) w5 hsh))]
      exact ⟨_, rfl, rfl, hfr⟩
  refine x_Ci_weak hcl ?_
  rintro v S1 ⟨rfl, g1⟩
  have hMo : x_Ci xs (d + 8) 139 [.ref 56, .int a] S1 (fun r S' => r = (if a = 0 then iI b else nI q) ∧ ∀ p j, ¬ (68 ≤ p ∧ p ≤ 73) → ¬ (p = 56 ∧ j = 25) → S' p j = S1 p j) := by
    have k57 : ∀ j, S1 57 j = S 57 j := fun j => g1 57 j (by omega)
    have m6' : S1 57 30 = nI (x_Al0 A) := (k57 _).trans m6
    have m7' : S1 57 31 = nI (x_Al1 A) := (k57 _).trans m7
    have q4s : x_GM S1 0 A := ⟨(k57 _).trans m1, (k57 _).trans m2, (k57 _).trans m3, (k57 _).trans m4, (k57 _).trans m5, m6', m7', (k57 _).trans m8⟩
    refine x_Ci_of (by rw [ml_139]; rfl) (T_139_0 ?_)
    rw [k57 0, p2, if_neg (by decide)]
    refine x_rd c_in ?_
    rw [x_inz1, if_neg (x_b_ne (by rw [decide_eq_true_eq]; exact he))]
    refine x_rd (c_isOver q4s q5' n1) ?_
    rw [if_pos (x_b_0.mpr (fun z => hne (by rw [decide_eq_true_eq] at z; exact z))), m6']
    refine x_rd (c_bits (by omega)) ?_
    rw [m7']
    refine x_rd (c_bits (by omega)) ?_
    rw [nI_add, hf, if_pos (show nI (g + 1) ≤ 4 from nI_le (b := 4) hfle (by decide))]
    refine ⟨_, c_layBest hB (x_VM_c (fun p j hp => g1 p j (by omega)) hM) hfle hW ((k57 _).trans (m1.trans esh)) ((k57 _).trans m3) m6' m7', ?_⟩
    rintro S5 ⟨r1, r2, r3⟩
    rw [hbq] at r1 r2
    rcases e0 with rfl | rfl
    · rw [if_pos rfl, if_pos rfl, r1]
      exact ⟨_, rfl, rfl, r3⟩
    · rw [if_neg (by decide), if_neg (by decide), r2]
      exact ⟨_, rfl, rfl, r3⟩
  refine x_Ci_weak hMo ?_
  rintro v S2 ⟨rfl, g2⟩
  exact ⟨rfl, x_Inv_c (fun p k hp => by rw [g2 p k (by omega) (by omega), g1 p k (by omega)]) H⟩
end OBEST
