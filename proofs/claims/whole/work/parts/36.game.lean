/-! THE GAME, told by numbers: what is played. shows, lying, taken, got 0, got 1, left 0, left 1, hand -/
abbrev x_Ga : Type := Int32 × Int32 × Int32 × Int32 × Int32 × Nat × Nat × Nat
def x_Ash (A : x_Ga) : Int32 := A.1
def x_Aly (A : x_Ga) : Int32 := A.2.1
def x_Atk (A : x_Ga) : Int32 := A.2.2.1
def x_Ag0 (A : x_Ga) : Int32 := A.2.2.2.1
def x_Ag1 (A : x_Ga) : Int32 := A.2.2.2.2.1
def x_Al0 (A : x_Ga) : Nat := A.2.2.2.2.2.1
def x_Al1 (A : x_Ga) : Nat := A.2.2.2.2.2.2.1
def x_Ah (A : x_Ga) : Nat := A.2.2.2.2.2.2.2
/-- the hand that plays, the other -/
def x_hd (A : x_Ga) : Nat := if x_Ah A = 0 then x_Al0 A else x_Al1 A
def x_ot (A : x_Ga) : Nat := if x_Ah A = 0 then x_Al1 A else x_Al0 A
def x_tu (A : x_Ga) : Int32 := if x_Al0 A = 0 ∧ x_Al1 A = 0 then -1000000 else nI (x_Ah A)
def x_gain (L T : Nat → Int32) (v : Nat) (A : x_Ga) : Int32 := x_wsum T (x_Ash A &&& L v) 9
def x_stp (L T : Nat → Int32) (v : Nat) (A : x_Ga) : x_Ga :=
  (if x_Ash A &&& L v = 0 then 511 else x_Ash A &&& L v,
   if x_Ash A &&& L v = 0 then 0 else x_Aly A + 1,
   if x_Ash A &&& L v = 0 then x_Atk A + 1 else x_Atk A,
   if x_Ah A = 0 then x_Ag0 A + x_gain L T v A else x_Ag0 A,
   if x_Ah A = 0 then x_Ag1 A else x_Ag1 A + x_gain L T v A,
   if x_Ah A = 0 then x_cl0 (x_Al0 A) (v / 8) else x_Al0 A,
   if x_Ah A = 0 then x_Al1 A else x_cl0 (x_Al1 A) (v / 8),
   if x_ot A = 0 then x_Ah A else 1 - x_Ah A)
def x_AW (n : Nat) (A : x_Ga) : Prop := (∃ m : Nat, m < 512 ∧ x_Ash A = nI m) ∧ x_Al0 A < 2 ^ n ∧ x_Al1 A < 2 ^ n ∧ x_Al0 A &&& x_Al1 A = 0 ∧ x_Ah A < 2 ∧ ((x_Al0 A = 0 ∧ x_Al1 A = 0) ∨ ¬ x_hd A = 0)
def x_GC (S : x_M) (g : Nat) (A : x_Ga) : Prop := S g 6 = x_Ash A ∧ S g 7 = x_Aly A ∧ S g 8 = x_tu A ∧ S g 9 = x_Atk A ∧ S (g + 3) 0 = nI (x_Al0 A) ∧ S (g + 3) 1 = nI (x_Al1 A) ∧ S (g + 4) 0 = x_Ag0 A ∧ S (g + 4) 1 = x_Ag1 A
def x_GM (S : x_M) (o : Nat) (A : x_Ga) : Prop := S 57 (o + 25) = x_Ash A ∧ S 57 (o + 26) = x_Aly A ∧ S 57 (o + 27) = nI (x_Ah A) ∧ S 57 (o + 28) = x_Ag0 A ∧ S 57 (o + 29) = x_Ag1 A ∧ S 57 (o + 30) = nI (x_Al0 A) ∧ S 57 (o + 31) = nI (x_Al1 A) ∧ S 57 (o + 32) = x_Atk A
/-- what stands of a game while it is played: the table, the cards -/
def x_GT (S : x_M) (g off n : Nat) : Prop := (∀ k, k < 9 → S (g + 1) k = S 57 (off + 16 + k) ∧ ∃ t : Nat, t ≤ 99 ∧ S (g + 1) k = nI t) ∧
  (∀ c, c < n → (∃ m : Nat, m < 512 ∧ S 57 (off + 2 + c) = nI m) ∧ ∀ w, w < 8 → S (g + 2) (8 * c + w) = x_lieF (S 57 (off + 2 + c)) w)
theorem x_GJ_A {S : x_M} {g off n : Nat} (h : x_GJ S g off n) : x_GT S g off n ∧ ∃ A, x_GC S g A ∧ x_GM S off A ∧ x_AW n A := by
  obtain ⟨a1, a2, a3, a4, a5, a6, l0, l1, hh, b1, b2, b3, b4, b5, b6, b7, b8, b9, b10⟩ := h
  refine ⟨⟨a1, a2⟩, (S g 6, S g 7, S g 9, S (g + 4) 0, S (g + 4) 1, l0, l1, hh), ⟨rfl, rfl, ?_, rfl, b4, b5, rfl, rfl⟩, ⟨a3.1.symm, a4.symm, b9, a6.1.symm, a6.2.symm, b6, b7, a5.symm⟩, a3.2, b1, b2, b3, b8, ?_⟩
  · show S g 8 = if l0 = 0 ∧ l1 = 0 then -1000000 else nI hh
    rcases b10 with ⟨c1, c2, c3⟩ | ⟨c1, c2⟩
    · rw [if_pos ⟨c1, c2⟩, c3]
    · rw [if_neg (fun z => c2 (by rw [z.1, z.2]; split <;> rfl)), c1]
  · rcases b10 with ⟨c1, c2, c3⟩ | ⟨c1, c2⟩
    · exact Or.inl ⟨c1, c2⟩
    · exact Or.inr c2
theorem x_GJ_of {S : x_M} {g off n : Nat} {A : x_Ga} (ht : x_GT S g off n) (hc : x_GC S g A) (hm : x_GM S off A) (hw : x_AW n A) : x_GJ S g off n := by
  obtain ⟨c1, c2, c3, c4, c5, c6, c7, c8⟩ := hc
  obtain ⟨m1, m2, m3, m4, m5, m6, m7, m8⟩ := hm
  obtain ⟨w1, w2, w3, w4, w5, w6⟩ := hw
  refine ⟨ht.1, ht.2, ⟨c1.trans m1.symm, by rw [c1]; exact w1⟩, c2.trans m2.symm, c4.trans m8.symm, ⟨c7.trans m4.symm, c8.trans m5.symm⟩, x_Al0 A, x_Al1 A, x_Ah A, w2, w3, w4, c5, c6, m6, m7, w5, m3, ?_⟩
  by_cases hz : x_Al0 A = 0 ∧ x_Al1 A = 0
  · exact Or.inl ⟨hz.1, hz.2, by rw [c3]; exact if_pos hz⟩
  · refine Or.inr ⟨by rw [c3]; exact if_neg hz, ?_⟩
    rcases w6 with w6 | w6
    · exact absurd w6 hz
    · exact w6
theorem x_AW_stp {L T : Nat → Int32} {v n : Nat} {A : x_Ga} (h : x_AW n A) (hL : ∃ m : Nat, m < 512 ∧ L v = nI m) (hv : v / 8 < 32) : x_AW n (x_stp L T v A) := by
  obtain ⟨⟨m, m1, m2⟩, w2, w3, w4, w5, w6⟩ := h
  obtain ⟨q, q1, q2⟩ := hL
  refine ⟨?_, ?_, ?_, ?_, ?_, ?_⟩
  · show ∃ m : Nat, m < 512 ∧ (if x_Ash A &&& L v = 0 then 511 else x_Ash A &&& L v) = nI m
    split
    · exact ⟨511, by omega, rfl⟩
    · exact ⟨m &&& q, Nat.lt_of_le_of_lt Nat.and_le_left m1, by rw [m2, q2, nI_and]⟩
  · show (if x_Ah A = 0 then x_cl0 (x_Al0 A) (v / 8) else x_Al0 A) < 2 ^ n
    split
    · exact x_cl0_lt w2
    · exact w2
  · show (if x_Ah A = 0 then x_Al1 A else x_cl0 (x_Al1 A) (v / 8)) < 2 ^ n
    split
    · exact w3
    · exact x_cl0_lt w3
  · show (if x_Ah A = 0 then x_cl0 (x_Al0 A) (v / 8) else x_Al0 A) &&& (if x_Ah A = 0 then x_Al1 A else x_cl0 (x_Al1 A) (v / 8)) = 0
    split
    · exact x_cl0_and w4
    · exact x_cl0_and2 w4
  · show (if x_ot A = 0 then x_Ah A else 1 - x_Ah A) < 2
    split <;> omega
  · show ((if x_Ah A = 0 then x_cl0 (x_Al0 A) (v / 8) else x_Al0 A) = 0 ∧ (if x_Ah A = 0 then x_Al1 A else x_cl0 (x_Al1 A) (v / 8)) = 0) ∨ ¬ (if (if x_ot A = 0 then x_Ah A else 1 - x_Ah A) = 0 then (if x_Ah A = 0 then x_cl0 (x_Al0 A) (v / 8) else x_Al0 A) else (if x_Ah A = 0 then x_Al1 A else x_cl0 (x_Al1 A) (v / 8))) = 0
    by_cases hh : x_Ah A = 0
    · simp only [x_ot, hh, if_true, if_pos]
      by_cases hz : x_Al1 A = 0
      · simp only [hz, if_true]
        by_cases hy : x_cl0 (x_Al0 A) (v / 8) = 0
        · exact Or.inl ⟨hy, trivial⟩
        · exact Or.inr hy
      · simp only [hz, if_false]
        refine Or.inr ?_
        rw [if_neg (by omega)]
        exact hz
    · have h1 : x_Ah A = 1 := by omega
      have h10 : ¬ (1 : Nat) = 0 := by omega
      simp only [x_ot, h1, h10, if_false]
      by_cases hz : x_Al0 A = 0
      · simp only [hz, if_true]
        by_cases hy : x_cl0 (x_Al1 A) (v / 8) = 0
        · exact Or.inl ⟨trivial, hy⟩
        · rw [if_neg h10]
          exact Or.inr hy
      · simp only [hz, if_false]
        refine Or.inr ?_
        rw [if_pos trivial]
        exact hz
section GAME
variable {xs : List Int32} {d : Nat} {S : x_M}
theorem x_2n {n : Nat} (h : n ≤ 14) : 2 ^ n ≤ 2 ^ 14 := Nat.pow_le_pow_right (by omega) h
theorem c_lie {g c w : Nat} (hg : x_tg g = 0) (hc : c < 14) (hw : w < 8) : x_Cr xs (d + 1) 8 [.ref g, .int (nI c), .int (nI w)] S (S (g + 2) (8 * c + w)) := by
  refine x_Ci_of (by rw [ml_8]; rfl) (T_8_0 hg ?_)
  rw [show (8 : Int32) * nI c + nI w = nI (8 * c + w) by rw [show (8 : Int32) = nI 8 from rfl, nI_mul, nI_add], if_neg (nI_pos (by omega)), if_neg (show ¬ (112 : Int32) ≤ nI (8 * c + w) from nI_ge (a := 8 * c + w) (b := 112) (by omega) (by decide))]
  refine ⟨x_ib_n (by omega) (by decide), ?_⟩
  rw [nI_clamp (by omega), x_rr_g hg (by omega)]
  exact x_rt_i rfl
theorem x_tu_z {A : x_Ga} (h : x_Al0 A = 0 ∧ x_Al1 A = 0) : x_tu A = -1000000 := if_pos h
theorem x_tu_n {A : x_Ga} (h : ¬ (x_Al0 A = 0 ∧ x_Al1 A = 0)) : x_tu A = nI (x_Ah A) := if_neg h
theorem x_hd_z {A : x_Ga} (h : x_Al0 A = 0 ∧ x_Al1 A = 0) : x_hd A = 0 := by unfold x_hd; rw [h.1, h.2]; split <;> rfl
theorem x_ot_z {A : x_Ga} (h : x_Al0 A = 0 ∧ x_Al1 A = 0) : x_ot A = 0 := by unfold x_ot; rw [h.1, h.2]; split <;> rfl
theorem c_playable {g n : Nat} {A : x_Ga} (hg : x_tg g = 0) (hc : x_GC S g A) (hw : x_AW n A) : x_Cr xs (d + 1) 11 [.ref g] S (nI (x_hd A)) := by
  obtain ⟨c1, c2, c3, c4, c5, c6, c7, c8⟩ := hc
  refine x_Ci_of (by rw [ml_11]; rfl) (T_11_0 hg ?_)
  rw [c3, x_rr_g hg (by omega)]
  by_cases hz : x_Al0 A = 0 ∧ x_Al1 A = 0
  · rw [x_tu_z hz, if_neg (by decide), if_neg (by decide), x_hd_z hz]
    exact x_rt_i rfl
  · have h2 := hw.2.2.2.2.1
    rw [x_tu_n hz]
    unfold x_hd
    rcases (by omega : x_Ah A = 0 ∨ x_Ah A = 1) with e | e
    · rw [e, if_pos (show nI 0 = 0 by decide), if_pos rfl]
      exact ⟨x_ib_n (by omega) (by decide), x_rt_i (by rw [nI_clamp (by omega)]; exact c5)⟩
    · rw [e, if_neg (show ¬ nI 1 = 0 by decide), if_pos (show nI 1 = 1 by decide), if_neg (by decide)]
      exact ⟨x_ib_n (by omega) (by decide), x_rt_i (by rw [nI_clamp (by omega)]; exact c6)⟩
theorem c_waiting {g n : Nat} {A : x_Ga} (hg : x_tg g = 0) (hc : x_GC S g A) (hw : x_AW n A) : x_Cr xs (d + 1) 14 [.ref g] S (nI (x_ot A)) := by
  obtain ⟨c1, c2, c3, c4, c5, c6, c7, c8⟩ := hc
  refine x_Ci_of (by rw [ml_14]; rfl) (T_14_0 hg ?_)
  rw [c3, x_rr_g hg (by omega)]
  by_cases hz : x_Al0 A = 0 ∧ x_Al1 A = 0
  · rw [x_tu_z hz, if_neg (by decide), if_neg (by decide), x_ot_z hz]
    exact x_rt_i rfl
  · have h2 := hw.2.2.2.2.1
    rw [x_tu_n hz]
    unfold x_ot
    rcases (by omega : x_Ah A = 0 ∨ x_Ah A = 1) with e | e
    · rw [e, if_pos (show nI 0 = 0 by decide), if_pos rfl, show (1 : Int32) - nI 0 = nI 1 by decide]
      exact ⟨x_ib_n (by omega) (by decide), x_rt_i (by rw [nI_clamp (by omega)]; exact c6)⟩
    · rw [e, if_neg (show ¬ nI 1 = 0 by decide), if_pos (show nI 1 = 1 by decide), if_neg (by decide), show (1 : Int32) - nI 1 = nI 0 by decide]
      exact ⟨x_ib_n (by omega) (by decide), x_rt_i (by rw [nI_clamp (by omega)]; exact c5)⟩
theorem x_hd_lt {n : Nat} {A : x_Ga} (hw : x_AW n A) : x_hd A < 2 ^ n := by unfold x_hd; split; exact hw.2.1; exact hw.2.2.1
theorem x_ot_lt {n : Nat} {A : x_Ga} (hw : x_AW n A) : x_ot A < 2 ^ n := by unfold x_ot; split; exact hw.2.2.1; exact hw.2.1
theorem c_mayLay {g n c : Nat} {A : x_Ga} (hg : x_tg g = 0) (hn : S g 5 = nI n) (hn4 : n ≤ 14) (hcn : c < n) (hc : x_GC S g A) (hw : x_AW n A) : x_Cr xs (d + 2) 10 [.ref g, .int (nI c)] S (x_b ((x_hd A).testBit c)) := by
  have h2 := x_2n hn4
  have h3 := x_hd_lt hw
  refine x_Ci_of (by rw [ml_10]; rfl) (T_10_0 hg ?_)
  rw [if_neg (nI_pos (by omega)), hn, if_neg (nI_ge hcn (by omega))]
  refine x_rd (c_playable hg hc hw) ?_
  have hx := x_has_n (l := x_hd A) (k := c) (by omega) (by omega)
  unfold x_has at hx
  split
  next h => exact x_rt_i (x_b_t (by rw [← hx]; exact decide_eq_true h))
  next h => exact x_rt_i (x_b_f (by rw [← hx]; exact fun z => h (of_decide_eq_true z)))
def x_hA (h l0 l1 : Nat) : Int32 := if l0 = 0 ∧ l1 = 0 then -1000000 else nI (if (if h = 0 then l1 else l0) = 0 then h else 1 - h)
theorem c_handAfter {g h l0 l1 : Nat} (hg : x_tg g = 0) (h0 : S (g + 3) 0 = nI l0) (h1 : S (g + 3) 1 = nI l1) (hl0 : l0 < 2 ^ 31) (hl1 : l1 < 2 ^ 31) (hh : h < 2) : x_Cr xs (d + 1) 6 [.ref g, .int (nI h)] S (x_hA h l0 l1) := by
  refine x_Ci_of (by rw [ml_6]; rfl) (T_6_0 hg ?_)
  rw [if_neg (nI_pos (by omega)), if_pos (show nI h ≤ 1 from nI_le (a := h) (b := 1) (by omega) (by decide)), x_rr_g hg (by omega)]
  unfold x_hA
  rcases (by omega : h = 0 ∨ h = 1) with e | e
  · subst e
    rw [show (1 : Int32) - nI 0 = nI 1 by decide, nI_clamp (by omega), nI_clamp (by omega), show g + 1 + 2 = g + 3 by omega, h0, h1]
    refine ⟨x_ib_n (by omega) (by decide), ?_⟩
    split
    next e1 =>
      refine ⟨x_ib_n (by omega) (by decide), ?_⟩
      rw [nI_eq0 hl1] at e1
      split
      next e0 => rw [nI_eq0 hl0] at e0; exact x_rt_i (by rw [if_pos ⟨e0, e1⟩])
      next e0 => rw [nI_eq0 hl0] at e0; exact x_rt_i (by rw [if_neg (fun z => e0 z.1), if_pos rfl, if_pos e1])
    next e1 => rw [nI_eq0 hl1] at e1; exact x_rt_i (by rw [if_neg (fun z => e1 z.2), if_pos rfl, if_neg e1])
  · subst e
    rw [show (1 : Int32) - nI 1 = nI 0 by decide, nI_clamp (by omega), nI_clamp (by omega), show g + 1 + 2 = g + 3 by omega, h0, h1]
    refine ⟨x_ib_n (by omega) (by decide), ?_⟩
    split
    next e1 =>
      refine ⟨x_ib_n (by omega) (by decide), ?_⟩
      rw [nI_eq0 hl0] at e1
      split
      next e0 => rw [nI_eq0 hl1] at e0; exact x_rt_i (by rw [if_pos ⟨e1, e0⟩])
      next e0 => rw [nI_eq0 hl1] at e0; exact x_rt_i (by rw [if_neg (fun z => e0 z.2), if_neg (by decide : ¬ 1 = 0), if_pos e1])
    next e1 => rw [nI_eq0 hl0] at e1; exact x_rt_i (by rw [if_neg (fun z => e1 z.1), if_neg (by decide : ¬ 1 = 0), if_neg e1])
end GAME
