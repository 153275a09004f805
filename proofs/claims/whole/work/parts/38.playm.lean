section PLAYM
variable {xs : List Int32} {d : Nat} {S : x_M}
theorem c_isInHand {n c : Nat} {A : x_Ga} (hn4 : n ≤ 14) (hcn : c < n) (hm : x_GM S 0 A) (hw : x_AW n A) : x_Cr xs (d + 2) 131 [.ref 56, .int (nI c)] S (x_b ((x_hd A).testBit c)) := by
  have h2 := x_2n hn4
  have h3 := x_hd_lt hw
  have hh := hw.2.2.2.2.1
  obtain ⟨m1, m2, m3, m4, m5, m6, m7, m8⟩ := hm
  refine x_Ci_of (by rw [ml_131]; rfl) (T_131_0 ?_)
  rw [show S 57 27 = nI (x_Ah A) from m3, show (30 : Int32) + nI (x_Ah A) = nI (30 + x_Ah A) from nI_add 30 _, nI_clamp (n := 30 + x_Ah A) (by omega)]
  refine ⟨x_ib_n (by omega) (by decide), ?_⟩
  have e : S 57 (30 + x_Ah A) = nI (x_hd A) := by
    unfold x_hd
    rcases (by omega : x_Ah A = 0 ∨ x_Ah A = 1) with e | e
    · rw [e]; exact m6
    · rw [e]; exact m7
  rw [e]
  refine x_rd c_has ⟨x_b01 _, x_rt_i ?_⟩
  rw [x_has_n (by omega) (by omega)]
set_option maxHeartbeats 2000000 in
theorem c_playOf {n v : Nat} {A : x_Ga} (hn4 : n ≤ 14) (hv : v < 8 * n) (hm : x_GM S 0 A) (hw : x_AW n A) : x_Ci xs (d + 3) 132 [.ref 56, .int (nI v)] S (fun w S' => w = x_gain (S 66) (fun k => S 57 (16 + k)) v A ∧ x_GM S' 0 (x_stp (S 66) (fun k => S 57 (16 + k)) v A) ∧ ∀ p k, ¬ (p = 57 ∧ 25 ≤ k ∧ k ≤ 32) → S' p k = S p k) := by
  have h2 := x_2n hn4
  obtain ⟨m1, m2, m3, m4, m5, m6, m7, m8⟩ := hm
  have m1 : S 57 25 = x_Ash A := m1
  have m2 : S 57 26 = x_Aly A := m2
  have m3 : S 57 27 = nI (x_Ah A) := m3
  have m8 : S 57 32 = x_Atk A := m8
  refine x_Ci_of (by rw [ml_132]; rfl) (T_132_0 ?_)
  have w2 := hw.2.1
  have w3 := hw.2.2.1
  have hh := hw.2.2.2.2.1
  rw [nI_clamp (n := v) (by omega), m1]
  refine ⟨x_ib_n (by omega) (by decide), ?_⟩
  refine x_rd c_worthOfM ?_
  show _
  rw [show x_wsum (fun k => S 57 (16 + k)) (x_Ash A &&& S 66 v) 9 = x_gain (S 66) (fun k => S 57 (16 + k)) v A from rfl]
  rcases (by omega : x_Ah A = 0 ∨ x_Ah A = 1) with e | e
  · have ehd : x_hd A = x_Al0 A := by unfold x_hd; rw [e]; rfl
    have eot : x_ot A = x_Al1 A := by unfold x_ot; rw [e]; rfl
    rw [m3, e, show (28 : Int32) + nI 0 = nI 28 by decide, show (30 : Int32) + nI 0 = nI 30 by decide, nI_clamp (n := 28) (by omega), nI_clamp (n := 30) (by omega)]
    refine ⟨x_ib_n (by omega) (by decide), x_ib_n (by omega) (by decide), ?_⟩
    have r1 : S 57 28 = x_Ag0 A := m4
    rw [r1]
    intro S2 hS2
    refine ⟨x_ib_n (by omega) (by decide), x_ib_n (by omega) (by decide), ?_⟩
    have r2 : S2 57 30 = nI (x_Al0 A) := by rw [hS2, x_up_ne (by omega)]; exact m6
    rw [r2, show nI v / 8 = nI (v / 8) from nI_div (b := 8) (by omega) (by omega), x_cl0_n (by omega)]
    intro S3 hS3
    have ecl : x_cl0 (x_Al0 A) (v / 8) ≤ x_Al0 A := x_cl0_le _ _
    have key3 : ∀ p k, ¬ (p = 57 ∧ 25 ≤ k ∧ k ≤ 32) → S3 p k = S p k := fun p k z => by rw [hS3, x_up_ne (by omega), hS2, x_up_ne (by omega)]
    have fl : S3 57 30 = nI (x_cl0 (x_Al0 A) (v / 8)) := by rw [hS3, x_up_at]
    have fo : S3 57 31 = nI (x_Al1 A) := by rw [hS3, x_up_ne (by omega), hS2, x_up_ne (by omega)]; exact m7
    have fg : S3 57 28 = x_Ag0 A + x_gain (S 66) (fun k => S 57 (16 + k)) v A := by rw [hS3, x_up_ne (by omega), hS2, x_up_at]
    have fG : S3 57 29 = x_Ag1 A := by rw [hS3, x_up_ne (by omega), hS2, x_up_ne (by omega)]; exact m5
    have fy : S3 57 26 = x_Aly A := by rw [hS3, x_up_ne (by omega), hS2, x_up_ne (by omega)]; exact m2
    have ft : S3 57 32 = x_Atk A := by rw [hS3, x_up_ne (by omega), hS2, x_up_ne (by omega)]; exact m8
    have fin : ∀ (U : x_M) (s6 s7 s9 s10 : Int32), (∀ p k, ¬ (p = 57 ∧ (k = 25 ∨ k = 26)) → U p k = S3 p k) → U 57 25 = s6 → U 57 26 = s7 → s9 + s10 = x_Atk (x_stp (S 66) (fun k => S 57 (16 + k)) v A) → s6 = x_Ash (x_stp (S 66) (fun k => S 57 (16 + k)) v A) → s7 = x_Aly (x_stp (S 66) (fun k => S 57 (16 + k)) v A) → x_E xs (d + 3) 132 123 [.ref 56, .int (nI v), .int (nI 0), .int (x_Ash A &&& S 66 v), .int (x_gain (S 66) (fun k => S 57 (16 + k)) v A)] [.int s10, .int s9, .int 32, .ref 57] U (fun r S' => ∃ w : Int32, r = some (.int w) ∧ w = x_gain (S 66) (fun k => S 57 (16 + k)) v A ∧ x_GM S' 0 (x_stp (S 66) (fun k => S 57 (16 + k)) v A) ∧ ∀ p k, ¬ (p = 57 ∧ 25 ≤ k ∧ k ≤ 32) → S' p k = S p k) := by
      intro U s6 s7 s9 s10 z0 z1 z2 z3 z4 z5
      refine T_132_123 ⟨x_ib_n (k := 32) (by omega) (by decide), ?_⟩
      intro U1 hU1
      rw [show (32 : Int32).toNatClampNeg = 32 by decide] at hU1
      refine ⟨by rw [show (31 : Int32) - nI 0 = nI 31 by decide]; exact x_ib_n (by omega) (by decide), ?_⟩
      rw [show (31 : Int32) - nI 0 = nI 31 by decide, nI_clamp (n := 31) (by omega)]
      have u1 : U1 57 31 = nI (x_Al1 A) := by rw [hU1, x_up_ne (by omega), z0 _ _ (by omega), fo]
      rw [u1]
      have fin2 : ∀ (U2 : x_M) (hx : Int32), U2 = x_up U1 57 27 hx → hx = nI (x_Ah (x_stp (S 66) (fun k => S 57 (16 + k)) v A)) → ∃ w : Int32, some (Value.int (x_gain (S 66) (fun k => S 57 (16 + k)) v A)) = some (.int w) ∧ w = x_gain (S 66) (fun k => S 57 (16 + k)) v A ∧ x_GM U2 0 (x_stp (S 66) (fun k => S 57 (16 + k)) v A) ∧ ∀ p k, ¬ (p = 57 ∧ 25 ≤ k ∧ k ≤ 32) → U2 p k = S p k := by
        intro U2 hx y1 y2
        refine ⟨_, rfl, rfl, ⟨?_, ?_, ?_, ?_, ?_, ?_, ?_, ?_⟩, fun p k y => by rw [y1, x_up_ne (by omega), hU1, x_up_ne (by omega), z0 _ _ (by omega), key3 p k y]⟩
        · rw [y1, x_up_ne (by omega), hU1, x_up_ne (by omega)]; exact z1.trans z4
        · rw [y1, x_up_ne (by omega), hU1, x_up_ne (by omega)]; exact z2.trans z5
        · rw [y1, ← y2]; exact x_up_at _ _ _ _
        · rw [y1, x_up_ne (by omega), hU1, x_up_ne (by omega), z0 _ _ (by omega)]
          show _ = (if x_Ah A = 0 then x_Ag0 A + x_gain (S 66) (fun k => S 57 (16 + k)) v A else x_Ag0 A)
          rw [e]
          exact fg
        · rw [y1, x_up_ne (by omega), hU1, x_up_ne (by omega), z0 _ _ (by omega)]
          show _ = (if x_Ah A = 0 then x_Ag1 A else x_Ag1 A + x_gain (S 66) (fun k => S 57 (16 + k)) v A)
          rw [e]
          exact fG
        · rw [y1, x_up_ne (by omega), hU1, x_up_ne (by omega), z0 _ _ (by omega)]
          show _ = nI (if x_Ah A = 0 then x_cl0 (x_Al0 A) (v / 8) else x_Al0 A)
          rw [e]
          exact fl
        · rw [y1, x_up_ne (by omega), hU1, x_up_ne (by omega), z0 _ _ (by omega)]
          show _ = nI (if x_Ah A = 0 then x_Al1 A else x_cl0 (x_Al1 A) (v / 8))
          rw [e]
          exact fo
        · rw [y1, x_up_ne (by omega), hU1, ← z3]; exact x_up_at _ _ _ _
      split
      next hz =>
        intro U2 hU2
        refine fin2 U2 _ hU2 ?_
        rw [nI_eq0 (by omega)] at hz
        show _ = nI (if x_ot A = 0 then x_Ah A else 1 - x_Ah A)
        rw [eot, if_pos hz, e]
      next hz =>
        intro U2 hU2
        refine fin2 U2 _ hU2 ?_
        rw [nI_eq0 (by omega)] at hz
        show _ = nI (if x_ot A = 0 then x_Ah A else 1 - x_Ah A)
        rw [eot, if_neg hz, e]
        rfl
    split
    next hs =>
      refine T_132_81 ⟨x_ib_n (k := 25) (by omega) (by decide), ?_⟩
      intro U1 hU1
      rw [show (25 : Int32).toNatClampNeg = 25 by decide] at hU1
      rw [if_pos hs]
      intro U2 hU2
      rw [if_pos hs, show U2 57 32 = x_Atk A by rw [hU2, x_up_ne (by omega), hU1, x_up_ne (by omega), ft]]
      refine fin U2 511 0 _ _ (fun p k z => by rw [hU2, x_up_ne (by omega), hU1, x_up_ne (by omega)]) ?_ ?_ ?_ ?_ ?_
      · rw [hU2, x_up_ne (by omega), hU1, x_up_at]
      · rw [hU2, x_up_at]
      · exact (if_pos hs).symm
      · exact (if_pos hs).symm
      · exact (if_pos hs).symm
    next hs =>
      refine T_132_81 ⟨x_ib_n (k := 25) (by omega) (by decide), ?_⟩
      intro U1 hU1
      rw [show (25 : Int32).toNatClampNeg = 25 by decide] at hU1
      rw [if_neg hs, show U1 57 26 = x_Aly A by rw [hU1, x_up_ne (by omega), fy]]
      intro U2 hU2
      rw [if_neg hs, show U2 57 32 = x_Atk A by rw [hU2, x_up_ne (by omega), hU1, x_up_ne (by omega), ft]]
      refine fin U2 (x_Ash A &&& S 66 v) (x_Aly A + 1) _ _ (fun p k z => by rw [hU2, x_up_ne (by omega), hU1, x_up_ne (by omega)]) ?_ ?_ ?_ ?_ ?_
      · rw [hU2, x_up_ne (by omega), hU1, x_up_at]
      · rw [hU2, x_up_at]
      · rw [Int32.add_zero]; exact (if_neg hs).symm
      · exact (if_neg hs).symm
      · exact (if_neg hs).symm
  · have ehd : x_hd A = x_Al1 A := by unfold x_hd; rw [e]; rfl
    have eot : x_ot A = x_Al0 A := by unfold x_ot; rw [e]; rfl
    rw [m3, e, show (28 : Int32) + nI 1 = nI 29 by decide, show (30 : Int32) + nI 1 = nI 31 by decide, nI_clamp (n := 29) (by omega), nI_clamp (n := 31) (by omega)]
    refine ⟨x_ib_n (by omega) (by decide), x_ib_n (by omega) (by decide), ?_⟩
    have r1 : S 57 29 = x_Ag1 A := m5
    rw [r1]
    intro S2 hS2
    refine ⟨x_ib_n (by omega) (by decide), x_ib_n (by omega) (by decide), ?_⟩
    have r2 : S2 57 31 = nI (x_Al1 A) := by rw [hS2, x_up_ne (by omega)]; exact m7
    rw [r2, show nI v / 8 = nI (v / 8) from nI_div (b := 8) (by omega) (by omega), x_cl0_n (by omega)]
    intro S3 hS3
    have ecl : x_cl0 (x_Al1 A) (v / 8) ≤ x_Al1 A := x_cl0_le _ _
    have key3 : ∀ p k, ¬ (p = 57 ∧ 25 ≤ k ∧ k ≤ 32) → S3 p k = S p k := fun p k z => by rw [hS3, x_up_ne (by omega), hS2, x_up_ne (by omega)]
    have fl : S3 57 31 = nI (x_cl0 (x_Al1 A) (v / 8)) := by rw [hS3, x_up_at]
    have fo : S3 57 30 = nI (x_Al0 A) := by rw [hS3, x_up_ne (by omega), hS2, x_up_ne (by omega)]; exact m6
    have fg : S3 57 29 = x_Ag1 A + x_gain (S 66) (fun k => S 57 (16 + k)) v A := by rw [hS3, x_up_ne (by omega), hS2, x_up_at]
    have fG : S3 57 28 = x_Ag0 A := by rw [hS3, x_up_ne (by omega), hS2, x_up_ne (by omega)]; exact m4
    have fy : S3 57 26 = x_Aly A := by rw [hS3, x_up_ne (by omega), hS2, x_up_ne (by omega)]; exact m2
    have ft : S3 57 32 = x_Atk A := by rw [hS3, x_up_ne (by omega), hS2, x_up_ne (by omega)]; exact m8
    have fin : ∀ (U : x_M) (s6 s7 s9 s10 : Int32), (∀ p k, ¬ (p = 57 ∧ (k = 25 ∨ k = 26)) → U p k = S3 p k) → U 57 25 = s6 → U 57 26 = s7 → s9 + s10 = x_Atk (x_stp (S 66) (fun k => S 57 (16 + k)) v A) → s6 = x_Ash (x_stp (S 66) (fun k => S 57 (16 + k)) v A) → s7 = x_Aly (x_stp (S 66) (fun k => S 57 (16 + k)) v A) → x_E xs (d + 3) 132 123 [.ref 56, .int (nI v), .int (nI 1), .int (x_Ash A &&& S 66 v), .int (x_gain (S 66) (fun k => S 57 (16 + k)) v A)] [.int s10, .int s9, .int 32, .ref 57] U (fun r S' => ∃ w : Int32, r = some (.int w) ∧ w = x_gain (S 66) (fun k => S 57 (16 + k)) v A ∧ x_GM S' 0 (x_stp (S 66) (fun k => S 57 (16 + k)) v A) ∧ ∀ p k, ¬ (p = 57 ∧ 25 ≤ k ∧ k ≤ 32) → S' p k = S p k) := by
      intro U s6 s7 s9 s10 z0 z1 z2 z3 z4 z5
      refine T_132_123 ⟨x_ib_n (k := 32) (by omega) (by decide), ?_⟩
      intro U1 hU1
      rw [show (32 : Int32).toNatClampNeg = 32 by decide] at hU1
      refine ⟨by rw [show (31 : Int32) - nI 1 = nI 30 by decide]; exact x_ib_n (by omega) (by decide), ?_⟩
      rw [show (31 : Int32) - nI 1 = nI 30 by decide, nI_clamp (n := 30) (by omega)]
      have u1 : U1 57 30 = nI (x_Al0 A) := by rw [hU1, x_up_ne (by omega), z0 _ _ (by omega), fo]
      rw [u1]
      have fin2 : ∀ (U2 : x_M) (hx : Int32), U2 = x_up U1 57 27 hx → hx = nI (x_Ah (x_stp (S 66) (fun k => S 57 (16 + k)) v A)) → ∃ w : Int32, some (Value.int (x_gain (S 66) (fun k => S 57 (16 + k)) v A)) = some (.int w) ∧ w = x_gain (S 66) (fun k => S 57 (16 + k)) v A ∧ x_GM U2 0 (x_stp (S 66) (fun k => S 57 (16 + k)) v A) ∧ ∀ p k, ¬ (p = 57 ∧ 25 ≤ k ∧ k ≤ 32) → U2 p k = S p k := by
        intro U2 hx y1 y2
        refine ⟨_, rfl, rfl, ⟨?_, ?_, ?_, ?_, ?_, ?_, ?_, ?_⟩, fun p k y => by rw [y1, x_up_ne (by omega), hU1, x_up_ne (by omega), z0 _ _ (by omega), key3 p k y]⟩
        · rw [y1, x_up_ne (by omega), hU1, x_up_ne (by omega)]; exact z1.trans z4
        · rw [y1, x_up_ne (by omega), hU1, x_up_ne (by omega)]; exact z2.trans z5
        · rw [y1, ← y2]; exact x_up_at _ _ _ _
        · rw [y1, x_up_ne (by omega), hU1, x_up_ne (by omega), z0 _ _ (by omega)]
          show _ = (if x_Ah A = 0 then x_Ag0 A + x_gain (S 66) (fun k => S 57 (16 + k)) v A else x_Ag0 A)
          rw [e]
          exact fG
        · rw [y1, x_up_ne (by omega), hU1, x_up_ne (by omega), z0 _ _ (by omega)]
          show _ = (if x_Ah A = 0 then x_Ag1 A else x_Ag1 A + x_gain (S 66) (fun k => S 57 (16 + k)) v A)
          rw [e]
          exact fg
        · rw [y1, x_up_ne (by omega), hU1, x_up_ne (by omega), z0 _ _ (by omega)]
          show _ = nI (if x_Ah A = 0 then x_cl0 (x_Al0 A) (v / 8) else x_Al0 A)
          rw [e]
          exact fo
        · rw [y1, x_up_ne (by omega), hU1, x_up_ne (by omega), z0 _ _ (by omega)]
          show _ = nI (if x_Ah A = 0 then x_Al1 A else x_cl0 (x_Al1 A) (v / 8))
          rw [e]
          exact fl
        · rw [y1, x_up_ne (by omega), hU1, ← z3]; exact x_up_at _ _ _ _
      split
      next hz =>
        intro U2 hU2
        refine fin2 U2 _ hU2 ?_
        rw [nI_eq0 (by omega)] at hz
        show _ = nI (if x_ot A = 0 then x_Ah A else 1 - x_Ah A)
        rw [eot, if_pos hz, e]
      next hz =>
        intro U2 hU2
        refine fin2 U2 _ hU2 ?_
        rw [nI_eq0 (by omega)] at hz
        show _ = nI (if x_ot A = 0 then x_Ah A else 1 - x_Ah A)
        rw [eot, if_neg hz, e]
        rfl
    split
    next hs =>
      refine T_132_81 ⟨x_ib_n (k := 25) (by omega) (by decide), ?_⟩
      intro U1 hU1
      rw [show (25 : Int32).toNatClampNeg = 25 by decide] at hU1
      rw [if_pos hs]
      intro U2 hU2
      rw [if_pos hs, show U2 57 32 = x_Atk A by rw [hU2, x_up_ne (by omega), hU1, x_up_ne (by omega), ft]]
      refine fin U2 511 0 _ _ (fun p k z => by rw [hU2, x_up_ne (by omega), hU1, x_up_ne (by omega)]) ?_ ?_ ?_ ?_ ?_
      · rw [hU2, x_up_ne (by omega), hU1, x_up_at]
      · rw [hU2, x_up_at]
      · exact (if_pos hs).symm
      · exact (if_pos hs).symm
      · exact (if_pos hs).symm
    next hs =>
      refine T_132_81 ⟨x_ib_n (k := 25) (by omega) (by decide), ?_⟩
      intro U1 hU1
      rw [show (25 : Int32).toNatClampNeg = 25 by decide] at hU1
      rw [if_neg hs, show U1 57 26 = x_Aly A by rw [hU1, x_up_ne (by omega), fy]]
      intro U2 hU2
      rw [if_neg hs, show U2 57 32 = x_Atk A by rw [hU2, x_up_ne (by omega), hU1, x_up_ne (by omega), ft]]
      refine fin U2 (x_Ash A &&& S 66 v) (x_Aly A + 1) _ _ (fun p k z => by rw [hU2, x_up_ne (by omega), hU1, x_up_ne (by omega)]) ?_ ?_ ?_ ?_ ?_
      · rw [hU2, x_up_ne (by omega), hU1, x_up_at]
      · rw [hU2, x_up_at]
      · rw [Int32.add_zero]; exact (if_neg hs).symm
      · exact (if_neg hs).symm
      · exact (if_neg hs).symm
end PLAYM
