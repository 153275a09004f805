/-! ONE PLAY: of the class, of the reference -/
section PLAY
variable {xs : List Int32} {d : Nat} {S : x_M}
set_option maxHeartbeats 2000000 in
theorem c_lay {g n c w : Nat} {A : x_Ga} (hg : x_tg g = 0) (hn : S g 5 = nI n) (hn4 : n ≤ 14) (hcn : c < n) (hww : w < 8) (hc : x_GC S g A) (hw : x_AW n A) (hb : (x_hd A).testBit c = true) : x_Ci xs (d + 3) 12 [.ref g, .int (nI c), .int (nI w)] S (fun v S' => v = x_gain (S (g + 2)) (S (g + 1)) (8 * c + w) A ∧ x_GC S' g (x_stp (S (g + 2)) (S (g + 1)) (8 * c + w) A) ∧ ∀ p k, ¬ (p = g ∧ 6 ≤ k ∧ k ≤ 9) → p ≠ g + 3 → p ≠ g + 4 → S' p k = S p k) := by
  have h2 := x_2n hn4
  refine x_Ci_of (by rw [ml_12]; rfl) (T_12_0 hg ?_)
  refine x_rd (c_mayLay hg hn hn4 hcn hc hw) ?_
  rw [if_neg (x_b_ne hb)]
  refine x_rd (c_lie hg (by omega) hww) ?_
  obtain ⟨c1, c2, c3, c4, c5, c6, c7, c8⟩ := hc
  have w2 := hw.2.1
  have w3 := hw.2.2.1
  have hh := hw.2.2.2.2.1
  have q0 := x_cl0_le (x_Al0 A) c
  have q1 := x_cl0_le (x_Al1 A) c
  rcases (by omega : x_Ah A = 0 ∨ x_Ah A = 1) with e | e
  · have hz : ¬ (x_Al0 A = 0 ∧ x_Al1 A = 0) := fun z => by rw [x_hd_z z] at hb; simp at hb
    have e8 : S g 8 = nI 0 := by rw [c3, x_tu_n hz, e]
    have ehd : x_hd A = x_Al0 A := by unfold x_hd; rw [e]; rfl
    have eot : x_ot A = x_Al1 A := by unfold x_ot; rw [e]; rfl
    have hsh : S g 6 &&& S (g + 2) (8 * c + w) = x_Ash A &&& S (g + 2) (8 * c + w) := by rw [c1]
    intro S3 hS3 S4 hS4
    have e48 : S4 g 8 = nI 0 := by rw [hS4, hS3, x_up_ne (by omega), x_up_ne (by omega), e8]
    rw [e48, nI_clamp (by omega), x_rr_g hg (by omega), show g + 1 + 2 = g + 3 by omega]
    refine ⟨x_ib_n (by omega) (by decide), x_ib_n (by omega) (by decide), ?_⟩
    have e4l : S4 (g + 3) 0 = nI (x_Al0 A) := by rw [hS4, hS3, x_up_ne (by omega), x_up_ne (by omega)]; exact c5
    rw [e4l, x_cl0_n (by omega)]
    intro S5 hS5
    have e56 : S5 g 6 = x_Ash A &&& S (g + 2) (8 * c + w) := by rw [hS5, x_up_ne (by omega), hS4, x_up_ne (by omega), hS3, x_up_at, c1]
    have e5t : S5 (g + 1) = S (g + 1) := by rw [hS5, x_up_pl (by omega), hS4, x_up_pl (by omega), hS3, x_up_pl (by omega)]
    refine x_rd (c_worthOf hg) ?_
    rw [e56, x_rr_g (j := 0) hg (by omega), show g + 1 + 0 = g + 1 by omega, e5t]
    have e58 : S5 g 8 = nI 0 := by rw [hS5, x_up_ne (by omega), e48]
    rw [e58, nI_clamp (by omega), x_rr_g (j := 3) hg (by omega), show g + 1 + 3 = g + 4 by omega]
    refine ⟨x_ib_n (by omega) (by decide), x_ib_n (by omega) (by decide), ?_⟩
    have e5g : S5 (g + 4) 0 = x_Ag0 A := by rw [hS5, x_up_ne (by omega), hS4, x_up_ne (by omega), hS3, x_up_ne (by omega)]; exact c7
    rw [e5g]
    intro S7 hS7
    have key : ∀ p k, ¬ (p = g ∧ 6 ≤ k ∧ k ≤ 9) → p ≠ g + 3 → p ≠ g + 4 → S7 p k = S p k := fun p k z1 z2 z3 => by rw [hS7, x_up_ne (by omega), hS5, x_up_ne (by omega), hS4, x_up_ne (by omega), hS3, x_up_ne (by omega)]
    have f6 : S7 g 6 = x_Ash A &&& S (g + 2) (8 * c + w) := by rw [hS7, x_up_ne (by omega), e56]
    have f7 : S7 g 7 = x_Aly A + 1 := by rw [hS7, x_up_ne (by omega), hS5, x_up_ne (by omega), hS4, x_up_at, hS3, x_up_ne (by omega), c2]
    have f8 : S7 g 8 = nI 0 := by rw [hS7, x_up_ne (by omega), e58]
    have f9 : S7 g 9 = x_Atk A := by rw [hS7, x_up_ne (by omega), hS5, x_up_ne (by omega), hS4, x_up_ne (by omega), hS3, x_up_ne (by omega), c4]
    have fl : S7 (g + 3) 0 = nI (x_cl0 (x_Al0 A) c) := by rw [hS7, x_up_ne (by omega), hS5, x_up_at]
    have fo : S7 (g + 3) 1 = nI (x_Al1 A) := by rw [hS7, x_up_ne (by omega), hS5, x_up_ne (by omega), hS4, x_up_ne (by omega), hS3, x_up_ne (by omega)]; exact c6
    have fg : S7 (g + 4) 0 = x_Ag0 A + x_gain (S (g + 2)) (S (g + 1)) (8 * c + w) A := by rw [hS7, x_up_at]; rfl
    have fG : S7 (g + 4) 1 = x_Ag1 A := by rw [hS7, x_up_ne (by omega), hS5, x_up_ne (by omega), hS4, x_up_ne (by omega), hS3, x_up_ne (by omega)]; exact c8
    have ecl : (8 * c + w) / 8 = c := by omega
    have tu : x_hA 0 (x_cl0 (x_Al0 A) c) (x_Al1 A) = x_tu (x_stp (S (g + 2)) (S (g + 1)) (8 * c + w) A) := by
      unfold x_hA x_tu
      show _ = if (if x_Ah A = 0 then x_cl0 (x_Al0 A) ((8 * c + w) / 8) else x_Al0 A) = 0 ∧ (if x_Ah A = 0 then x_Al1 A else x_cl0 (x_Al1 A) ((8 * c + w) / 8)) = 0 then -1000000 else nI (if x_ot A = 0 then x_Ah A else 1 - x_Ah A)
      rw [ecl, eot, e]
      rfl
    have fin : ∀ (T : x_M) (s6 s7 s9 : Int32), (∀ p k, ¬ (p = g ∧ 6 ≤ k ∧ k ≤ 9) → T p k = S7 p k) → T g 6 = s6 → T g 7 = s7 → T g 9 = s9 → T g 8 = x_tu (x_stp (S (g + 2)) (S (g + 1)) (8 * c + w) A) → s6 = x_Ash (x_stp (S (g + 2)) (S (g + 1)) (8 * c + w) A) → s7 = x_Aly (x_stp (S (g + 2)) (S (g + 1)) (8 * c + w) A) → s9 = x_Atk (x_stp (S (g + 2)) (S (g + 1)) (8 * c + w) A) → ∃ v : Int32, some (Value.int (x_wsum (S (g + 1)) (x_Ash A &&& S (g + 2) (8 * c + w)) 9)) = some (.int v) ∧ v = x_gain (S (g + 2)) (S (g + 1)) (8 * c + w) A ∧ x_GC T g (x_stp (S (g + 2)) (S (g + 1)) (8 * c + w) A) ∧ ∀ p k, ¬ (p = g ∧ 6 ≤ k ∧ k ≤ 9) → p ≠ g + 3 → p ≠ g + 4 → T p k = S p k := by
      intro T s6 s7 s9 z0 z1 z2 z3 z4 z5 z6 z7
      refine ⟨_, rfl, rfl, ⟨z1.trans z5, z2.trans z6, z4, z3.trans z7, ?_, ?_, ?_, ?_⟩, fun p k y1 y2 y3 => by rw [z0 p k y1, key p k y1 y2 y3]⟩
      · rw [z0 _ _ (by omega)]
        show _ = nI (if x_Ah A = 0 then x_cl0 (x_Al0 A) ((8 * c + w) / 8) else x_Al0 A)
        rw [e, ecl]
        exact fl
      · rw [z0 _ _ (by omega)]
        show _ = nI (if x_Ah A = 0 then x_Al1 A else x_cl0 (x_Al1 A) ((8 * c + w) / 8))
        rw [e, ecl]
        exact fo
      · rw [z0 _ _ (by omega)]
        show _ = (if x_Ah A = 0 then x_Ag0 A + x_gain (S (g + 2)) (S (g + 1)) (8 * c + w) A else x_Ag0 A)
        rw [e]
        exact fg
      · rw [z0 _ _ (by omega)]
        show _ = (if x_Ah A = 0 then x_Ag1 A else x_Ag1 A + x_gain (S (g + 2)) (S (g + 1)) (8 * c + w) A)
        rw [e]
        exact fG
    rw [f6]
    split
    next hs =>
      intro S10 hS10 S11 hS11 S12 hS12
      have g8 : S12 g 8 = nI 0 := by rw [hS12, x_up_ne (by omega), hS11, x_up_ne (by omega), hS10, x_up_ne (by omega), f8]
      have gl : ∀ j, S12 (g + 3) j = S7 (g + 3) j := fun j => by rw [hS12, x_up_ne (by omega), hS11, x_up_ne (by omega), hS10, x_up_ne (by omega)]
      rw [g8]
      refine x_rd (c_handAfter hg ((gl 0).trans fl) ((gl 1).trans fo) (by omega) (by omega) (by omega)) ?_
      intro S14 hS14
      refine fin S14 511 0 (x_Atk A + 1) (fun p k z => by rw [hS14, x_up_ne (by omega), hS12, x_up_ne (by omega), hS11, x_up_ne (by omega), hS10, x_up_ne (by omega)]) ?_ ?_ ?_ ?_ ?_ ?_ ?_
      · rw [hS14, x_up_ne (by omega), hS12, x_up_ne (by omega), hS11, x_up_ne (by omega), hS10, x_up_at]
      · rw [hS14, x_up_ne (by omega), hS12, x_up_ne (by omega), hS11, x_up_at]
      · rw [hS14, x_up_ne (by omega), hS12, x_up_at, hS11, x_up_ne (by omega), hS10, x_up_ne (by omega), f9]
      · rw [hS14, x_up_at, tu]
      · exact (if_pos hs).symm
      · exact (if_pos hs).symm
      · exact (if_pos hs).symm
    next hs =>
      rw [f8]
      refine x_rd (c_handAfter hg fl fo (by omega) (by omega) (by omega)) ?_
      intro S9 hS9
      refine fin S9 (x_Ash A &&& S (g + 2) (8 * c + w)) (x_Aly A + 1) (x_Atk A) (fun p k z => by rw [hS9, x_up_ne (by omega)]) ?_ ?_ ?_ ?_ ?_ ?_ ?_
      · rw [hS9, x_up_ne (by omega), f6]
      · rw [hS9, x_up_ne (by omega), f7]
      · rw [hS9, x_up_ne (by omega), f9]
      · rw [hS9, x_up_at, tu]
      · exact (if_neg hs).symm
      · exact (if_neg hs).symm
      · exact (if_neg hs).symm
  · have hz : ¬ (x_Al0 A = 0 ∧ x_Al1 A = 0) := fun z => by rw [x_hd_z z] at hb; simp at hb
    have e8 : S g 8 = nI 1 := by rw [c3, x_tu_n hz, e]
    have ehd : x_hd A = x_Al1 A := by unfold x_hd; rw [e]; rfl
    have eot : x_ot A = x_Al0 A := by unfold x_ot; rw [e]; rfl
    have hsh : S g 6 &&& S (g + 2) (8 * c + w) = x_Ash A &&& S (g + 2) (8 * c + w) := by rw [c1]
    intro S3 hS3 S4 hS4
    have e48 : S4 g 8 = nI 1 := by rw [hS4, hS3, x_up_ne (by omega), x_up_ne (by omega), e8]
    rw [e48, nI_clamp (by omega), x_rr_g hg (by omega), show g + 1 + 2 = g + 3 by omega]
    refine ⟨x_ib_n (by omega) (by decide), x_ib_n (by omega) (by decide), ?_⟩
    have e4l : S4 (g + 3) 1 = nI (x_Al1 A) := by rw [hS4, hS3, x_up_ne (by omega), x_up_ne (by omega)]; exact c6
    rw [e4l, x_cl0_n (by omega)]
    intro S5 hS5
    have e56 : S5 g 6 = x_Ash A &&& S (g + 2) (8 * c + w) := by rw [hS5, x_up_ne (by omega), hS4, x_up_ne (by omega), hS3, x_up_at, c1]
    have e5t : S5 (g + 1) = S (g + 1) := by rw [hS5, x_up_pl (by omega), hS4, x_up_pl (by omega), hS3, x_up_pl (by omega)]
    refine x_rd (c_worthOf hg) ?_
    rw [e56, x_rr_g (j := 0) hg (by omega), show g + 1 + 0 = g + 1 by omega, e5t]
    have e58 : S5 g 8 = nI 1 := by rw [hS5, x_up_ne (by omega), e48]
    rw [e58, nI_clamp (by omega), x_rr_g (j := 3) hg (by omega), show g + 1 + 3 = g + 4 by omega]
    refine ⟨x_ib_n (by omega) (by decide), x_ib_n (by omega) (by decide), ?_⟩
    have e5g : S5 (g + 4) 1 = x_Ag1 A := by rw [hS5, x_up_ne (by omega), hS4, x_up_ne (by omega), hS3, x_up_ne (by omega)]; exact c8
    rw [e5g]
    intro S7 hS7
    have key : ∀ p k, ¬ (p = g ∧ 6 ≤ k ∧ k ≤ 9) → p ≠ g + 3 → p ≠ g + 4 → S7 p k = S p k := fun p k z1 z2 z3 => by rw [hS7, x_up_ne (by omega), hS5, x_up_ne (by omega), hS4, x_up_ne (by omega), hS3, x_up_ne (by omega)]
    have f6 : S7 g 6 = x_Ash A &&& S (g + 2) (8 * c + w) := by rw [hS7, x_up_ne (by omega), e56]
    have f7 : S7 g 7 = x_Aly A + 1 := by rw [hS7, x_up_ne (by omega), hS5, x_up_ne (by omega), hS4, x_up_at, hS3, x_up_ne (by omega), c2]
    have f8 : S7 g 8 = nI 1 := by rw [hS7, x_up_ne (by omega), e58]
    have f9 : S7 g 9 = x_Atk A := by rw [hS7, x_up_ne (by omega), hS5, x_up_ne (by omega), hS4, x_up_ne (by omega), hS3, x_up_ne (by omega), c4]
    have fl : S7 (g + 3) 1 = nI (x_cl0 (x_Al1 A) c) := by rw [hS7, x_up_ne (by omega), hS5, x_up_at]
    have fo : S7 (g + 3) 0 = nI (x_Al0 A) := by rw [hS7, x_up_ne (by omega), hS5, x_up_ne (by omega), hS4, x_up_ne (by omega), hS3, x_up_ne (by omega)]; exact c5
    have fg : S7 (g + 4) 1 = x_Ag1 A + x_gain (S (g + 2)) (S (g + 1)) (8 * c + w) A := by rw [hS7, x_up_at]; rfl
    have fG : S7 (g + 4) 0 = x_Ag0 A := by rw [hS7, x_up_ne (by omega), hS5, x_up_ne (by omega), hS4, x_up_ne (by omega), hS3, x_up_ne (by omega)]; exact c7
    have ecl : (8 * c + w) / 8 = c := by omega
    have tu : x_hA 1 (x_Al0 A) (x_cl0 (x_Al1 A) c) = x_tu (x_stp (S (g + 2)) (S (g + 1)) (8 * c + w) A) := by
      unfold x_hA x_tu
      show _ = if (if x_Ah A = 0 then x_cl0 (x_Al0 A) ((8 * c + w) / 8) else x_Al0 A) = 0 ∧ (if x_Ah A = 0 then x_Al1 A else x_cl0 (x_Al1 A) ((8 * c + w) / 8)) = 0 then -1000000 else nI (if x_ot A = 0 then x_Ah A else 1 - x_Ah A)
      rw [ecl, eot, e]
      rfl
    have fin : ∀ (T : x_M) (s6 s7 s9 : Int32), (∀ p k, ¬ (p = g ∧ 6 ≤ k ∧ k ≤ 9) → T p k = S7 p k) → T g 6 = s6 → T g 7 = s7 → T g 9 = s9 → T g 8 = x_tu (x_stp (S (g + 2)) (S (g + 1)) (8 * c + w) A) → s6 = x_Ash (x_stp (S (g + 2)) (S (g + 1)) (8 * c + w) A) → s7 = x_Aly (x_stp (S (g + 2)) (S (g + 1)) (8 * c + w) A) → s9 = x_Atk (x_stp (S (g + 2)) (S (g + 1)) (8 * c + w) A) → ∃ v : Int32, some (Value.int (x_wsum (S (g + 1)) (x_Ash A &&& S (g + 2) (8 * c + w)) 9)) = some (.int v) ∧ v = x_gain (S (g + 2)) (S (g + 1)) (8 * c + w) A ∧ x_GC T g (x_stp (S (g + 2)) (S (g + 1)) (8 * c + w) A) ∧ ∀ p k, ¬ (p = g ∧ 6 ≤ k ∧ k ≤ 9) → p ≠ g + 3 → p ≠ g + 4 → T p k = S p k := by
      intro T s6 s7 s9 z0 z1 z2 z3 z4 z5 z6 z7
      refine ⟨_, rfl, rfl, ⟨z1.trans z5, z2.trans z6, z4, z3.trans z7, ?_, ?_, ?_, ?_⟩, fun p k y1 y2 y3 => by rw [z0 p k y1, key p k y1 y2 y3]⟩
      · rw [z0 _ _ (by omega)]
        show _ = nI (if x_Ah A = 0 then x_cl0 (x_Al0 A) ((8 * c + w) / 8) else x_Al0 A)
        rw [e, ecl]
        exact fo
      · rw [z0 _ _ (by omega)]
        show _ = nI (if x_Ah A = 0 then x_Al1 A else x_cl0 (x_Al1 A) ((8 * c + w) / 8))
        rw [e, ecl]
        exact fl
      · rw [z0 _ _ (by omega)]
        show _ = (if x_Ah A = 0 then x_Ag0 A + x_gain (S (g + 2)) (S (g + 1)) (8 * c + w) A else x_Ag0 A)
        rw [e]
        exact fG
      · rw [z0 _ _ (by omega)]
        show _ = (if x_Ah A = 0 then x_Ag1 A else x_Ag1 A + x_gain (S (g + 2)) (S (g + 1)) (8 * c + w) A)
        rw [e]
        exact fg
    rw [f6]
    split
    next hs =>
      intro S10 hS10 S11 hS11 S12 hS12
      have g8 : S12 g 8 = nI 1 := by rw [hS12, x_up_ne (by omega), hS11, x_up_ne (by omega), hS10, x_up_ne (by omega), f8]
      have gl : ∀ j, S12 (g + 3) j = S7 (g + 3) j := fun j => by rw [hS12, x_up_ne (by omega), hS11, x_up_ne (by omega), hS10, x_up_ne (by omega)]
      rw [g8]
      refine x_rd (c_handAfter hg ((gl 0).trans fo) ((gl 1).trans fl) (by omega) (by omega) (by omega)) ?_
      intro S14 hS14
      refine fin S14 511 0 (x_Atk A + 1) (fun p k z => by rw [hS14, x_up_ne (by omega), hS12, x_up_ne (by omega), hS11, x_up_ne (by omega), hS10, x_up_ne (by omega)]) ?_ ?_ ?_ ?_ ?_ ?_ ?_
      · rw [hS14, x_up_ne (by omega), hS12, x_up_ne (by omega), hS11, x_up_ne (by omega), hS10, x_up_at]
      · rw [hS14, x_up_ne (by omega), hS12, x_up_ne (by omega), hS11, x_up_at]
      · rw [hS14, x_up_ne (by omega), hS12, x_up_at, hS11, x_up_ne (by omega), hS10, x_up_ne (by omega), f9]
      · rw [hS14, x_up_at, tu]
      · exact (if_pos hs).symm
      · exact (if_pos hs).symm
      · exact (if_pos hs).symm
    next hs =>
      rw [f8]
      refine x_rd (c_handAfter hg fo fl (by omega) (by omega) (by omega)) ?_
      intro S9 hS9
      refine fin S9 (x_Ash A &&& S (g + 2) (8 * c + w)) (x_Aly A + 1) (x_Atk A) (fun p k z => by rw [hS9, x_up_ne (by omega)]) ?_ ?_ ?_ ?_ ?_ ?_ ?_
      · rw [hS9, x_up_ne (by omega), f6]
      · rw [hS9, x_up_ne (by omega), f7]
      · rw [hS9, x_up_ne (by omega), f9]
      · rw [hS9, x_up_at, tu]
      · exact (if_neg hs).symm
      · exact (if_neg hs).symm
      · exact (if_neg hs).symm
end PLAY
