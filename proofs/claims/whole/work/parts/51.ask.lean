/-! ASK: bodies, and the trace that they leave -/
def x_TC (S : x_M) (tr : List Nat) : Prop := S 28 1 = nI tr.length ∧ ∀ i, i < tr.length → S 29 i = nI (tr.getD i 0)
def x_TrM (S : x_M) (tr : List Nat) : Prop := S 56 9 = nI tr.length ∧ ∀ i, i < tr.length → S 62 i = nI (tr.getD i 0)
def x_FrC (S S' : x_M) : Prop := ∀ p k, ¬ (p = 28 ∧ k = 1) → p ≠ 29 → S' p k = S p k
def x_FrM (S S' : x_M) : Prop := ∀ p k, ¬ (p = 56 ∧ k = 9) → p ≠ 62 → S' p k = S p k
def x_CF (S : x_M) (c : Nat) (f T : Nat → Int32) : Prop := (∀ w, w < 8 → S 14 (8 * c + w) = f w) ∧ ∀ j, j < 9 → S 13 j = T j
def x_MF (S : x_M) (c m : Nat) (f T : Nat → Int32) : Prop := (∀ w, w < 8 → S 66 (8 * c + w) = f w) ∧ S 57 (2 + c) = nI m ∧ ∀ j, j < 9 → S 57 (16 + j) = T j
theorem x_FrC.rf {S : x_M} : x_FrC S S := fun _ _ _ _ => rfl
theorem x_FrC.tr {S S1 S2 : x_M} (h1 : x_FrC S S1) (h2 : x_FrC S1 S2) : x_FrC S S2 := fun p k z1 z2 => (h2 p k z1 z2).trans (h1 p k z1 z2)
theorem x_FrM.rf {S : x_M} : x_FrM S S := fun _ _ _ _ => rfl
theorem x_FrM.tr {S S1 S2 : x_M} (h1 : x_FrM S S1) (h2 : x_FrM S1 S2) : x_FrM S S2 := fun p k z1 z2 => (h2 p k z1 z2).trans (h1 p k z1 z2)
theorem x_CF.fr {S S' : x_M} {c : Nat} {f T : Nat → Int32} (h : x_CF S c f T) (g : x_FrC S S') : x_CF S' c f T := ⟨fun w hw => (g _ _ (by omega) (by omega)).trans (h.1 w hw), fun j hj => (g _ _ (by omega) (by omega)).trans (h.2 j hj)⟩
theorem x_MF.fr {S S' : x_M} {c m : Nat} {f T : Nat → Int32} (h : x_MF S c m f T) (g : x_FrM S S') : x_MF S' c m f T := ⟨fun w hw => (g _ _ (by omega) (by omega)).trans (h.1 w hw), (g _ _ (by omega) (by omega)).trans h.2.1, fun j hj => (g _ _ (by omega) (by omega)).trans (h.2.2 j hj)⟩
def x_mkv (kd : Nat) (p w c : Int32) : Int32 := if kd = 5 then c + w - 1000 else if kd = 4 then c + w + 500 else if kd = 2 then c + p - 100 else c + w
def x_mkt (kd : Nat) : List Nat := if kd = 5 then [22, 21, 20] else if kd = 4 then [24, 21, 20] else if kd = 2 then [23, 20, 14, 10] else [21, 20]
def x_szv (kd : Nat) (p w c : Int32) : Int32 := if kd = 3 ∨ kd = 5 then 2 * (p + x_mkv kd p w c) else if kd = 4 then -(p + x_mkv kd p w c) else if kd = 2 then p - 100 else p + x_mkv kd p w c
def x_szt (kd : Nat) : List Nat := if kd = 3 ∨ kd = 5 then 12 :: 11 :: 10 :: x_mkt kd else if kd = 4 then 13 :: 11 :: 10 :: x_mkt kd else if kd = 2 then [14, 10] else 11 :: 10 :: x_mkt kd
theorem x_getD_l {tr : List Nat} {x i : Nat} (h : i < tr.length) : (tr ++ [x]).getD i 0 = tr.getD i 0 := by
  rw [List.getD_eq_getElem?_getD, List.getD_eq_getElem?_getD, List.getElem?_append_left h]
theorem x_getD_e {tr : List Nat} {x : Nat} : (tr ++ [x]).getD tr.length 0 = x := by
  rw [List.getD_eq_getElem?_getD, List.getElem?_append_right (Nat.le_refl _), Nat.sub_self]
  rfl
section ASK
variable {xs : List Int32} {d : Nat} {S : x_M} {tr : List Nat} {c m e : Nat} {f T : Nat → Int32}
theorem c_leave {x : Nat} (h : x_TC S tr) (hl : tr.length < 16) : x_Cv xs (d + 1) 41 [.ref 28, .int (nI x)] S (fun S' => x_TC S' (tr ++ [x]) ∧ x_FrC S S') := by
  refine x_Cv_of (by rw [ml_41]; rfl) (T_41_0 ?_)
  rw [h.1, if_neg (show ¬ (16 : Int32) ≤ nI tr.length from nI_ge (b := 16) hl (by decide)), nI_clamp (by omega)]
  refine ⟨x_ib_n hl (by decide), ?_⟩
  intro S1 hS1 S2 hS2
  rw [show S1 28 1 = nI tr.length by rw [hS1, x_up_ne (by omega), h.1], ← nI_succ] at hS2
  refine ⟨rfl, ⟨by rw [hS2, x_up_at, List.length_append]; rfl, fun i hi => ?_⟩, fun p k z1 z2 => by rw [hS2, x_up_ne z1, hS1, x_up_ne (by omega)]⟩
  rw [List.length_append, List.length_singleton] at hi
  by_cases hi2 : i = tr.length
  · rw [hi2, x_getD_e, hS2, x_up_ne (by omega), hS1, x_up_at]
  · rw [x_getD_l (by omega), hS2, x_up_ne (by omega), hS1, x_up_ne (by omega)]
    exact h.2 i (by omega)
theorem c_leaveM {x : Nat} (h : x_TrM S tr) (hl : tr.length < 16) : x_Cv xs (d + 1) 164 [.ref 56, .int (nI x)] S (fun S' => x_TrM S' (tr ++ [x]) ∧ x_FrM S S') := by
  refine x_Cv_of (by rw [ml_164]; rfl) (T_164_0 ?_)
  rw [h.1, if_neg (show ¬ (16 : Int32) ≤ nI tr.length from nI_ge (b := 16) hl (by decide)), nI_clamp (by omega)]
  refine ⟨x_ib_n hl (by decide), ?_⟩
  intro S1 hS1 S2 hS2
  rw [show S1 56 9 = nI tr.length by rw [hS1, x_up_ne (by omega), h.1], ← nI_succ] at hS2
  refine ⟨rfl, ⟨by rw [hS2, x_up_at, List.length_append]; rfl, fun i hi => ?_⟩, fun p k z1 z2 => by rw [hS2, x_up_ne z1, hS1, x_up_ne (by omega)]⟩
  rw [List.length_append, List.length_singleton] at hi
  by_cases hi2 : i = tr.length
  · rw [hi2, x_getD_e, hS2, x_up_ne (by omega), hS1, x_up_at]
  · rw [x_getD_l (by omega), hS2, x_up_ne (by omega), hS1, x_up_ne (by omega)]
    exact h.2 i (by omega)
/-- a body of the class: what it gives, what it leaves -/
def x_Bd (xs : List Int32) (D num e c : Nat) (tr l : List Nat) (v : Int32) (S : x_M) : Prop := x_Ci xs D 93 [.int (nI num), .ref 12, .int (nI c), .ref 28, .int (nI e)] S (fun w S' => w = v ∧ x_TC S' (tr ++ l) ∧ x_FrC S S')
def x_Bm (xs : List Int32) (D z c : Nat) (tr l : List Nat) (v : Int32) (S : x_M) : Prop := x_Ci xs D z [.ref 56, .int (nI c)] S (fun w S' => w = v ∧ x_TrM S' (tr ++ l) ∧ x_FrM S S')
theorem b_10 (hc : c < 14) (hm : m < 512) (h0 : f 0 = nI m) (he : e ≤ 12) (hF : x_CF S c f T) (ht : x_TC S tr) (hl : tr.length + 1 ≤ 16) : x_Bd xs (d + 2) 10 e c tr [10] (nI (x_pop m 14)) S := by
  refine x_Ci_of (by rw [ml_93]; rfl) (T_93_0 (by decide) ?_)
  rw [if_pos (show nI e ≤ 12 from nI_le (b := 12) he (by decide))]
  refine ⟨_, c_leave (x := 10) ht (by omega), ?_⟩
  rintro S1 ⟨t1, f1⟩
  rw [if_pos (show nI 10 = 10 from rfl)]
  have F1 := hF.fr f1
  refine x_rd (c_lie (w := 0) (by decide) hc (by omega)) ?_
  rw [F1.1 0 (by omega), h0]
  exact x_rd (c_bitCount (by omega)) ⟨_, rfl, rfl, t1, f1⟩
theorem b_20 (he : e ≤ 12) (ht : x_TC S tr) (hl : tr.length + 1 ≤ 16) : x_Bd xs (d + 2) 20 e c tr [20] (nI c) S := by
  refine x_Ci_of (by rw [ml_93]; rfl) (T_93_0 (by decide) ?_)
  rw [if_pos (show nI e ≤ 12 from nI_le (b := 12) he (by decide))]
  refine ⟨_, c_leave (x := 20) ht (by omega), ?_⟩
  rintro S1 ⟨t1, f1⟩
  rw [if_neg (show ¬ nI 20 = 10 by decide), if_neg (show ¬ nI 20 = 11 by decide), if_neg (show ¬ nI 20 = 12 by decide), if_neg (show ¬ nI 20 = 13 by decide), if_neg (show ¬ nI 20 = 14 by decide), if_neg (show ¬ nI 20 = 15 by decide), if_neg (show ¬ nI 20 = 16 by decide), if_neg (show ¬ nI 20 = 17 by decide), if_neg (show ¬ nI 20 = 18 by decide), if_neg (show ¬ nI 20 = 19 by decide), if_pos (show nI 20 = 20 from rfl)]
  exact ⟨_, rfl, rfl, t1, f1⟩
theorem b_21 (hc : c < 14) (h0 : f 0 = nI m) (he : e + 1 ≤ 12) (hF : x_CF S c f T) (ht : x_TC S tr) (hl : tr.length + 2 ≤ 16) : x_Bd xs (d + 3) 21 e c tr [21, 20] (nI c + x_wsum T (nI m) 9) S := by
  have he : e ≤ 12 := by omega
  refine x_Ci_of (by rw [ml_93]; rfl) (T_93_0 (by decide) ?_)
  rw [if_pos (show nI e ≤ 12 from nI_le (b := 12) he (by decide))]
  refine ⟨_, c_leave (x := 21) ht (by omega), ?_⟩
  rintro S1 ⟨t1, f1⟩
  rw [if_neg (show ¬ nI 21 = 10 by decide), if_neg (show ¬ nI 21 = 11 by decide), if_neg (show ¬ nI 21 = 12 by decide), if_neg (show ¬ nI 21 = 13 by decide), if_neg (show ¬ nI 21 = 14 by decide), if_neg (show ¬ nI 21 = 15 by decide), if_neg (show ¬ nI 21 = 16 by decide), if_neg (show ¬ nI 21 = 17 by decide), if_neg (show ¬ nI 21 = 18 by decide), if_neg (show ¬ nI 21 = 19 by decide), if_neg (show ¬ nI 21 = 20 by decide), if_pos (show nI 21 = 21 from rfl)]
  rw [← nI_succ]
  refine ⟨_, b_20 (c := c) (by omega) t1 (by rw [List.length_append]; show tr.length + 1 + 1 ≤ 16; omega), ?_⟩
  rintro v S2 ⟨rfl, t2, f2⟩
  have F2 := (hF.fr f1).fr f2
  refine x_rd (c_lie (w := 0) (by decide) hc (by omega)) (x_rd (c_worthOf (by decide)) ⟨_, rfl, ?_, ?_, f1.tr f2⟩)
  · rw [show S2 (12 + 2) (8 * c + 0) = nI m from (F2.1 0 (by omega)).trans h0]
    rw [show x_wsum (S2 (x_rr 12 0)) (nI m) 9 = x_wsum T (nI m) 9 from x_wsum_c 9 (fun j hj => F2.2 j hj)]
  · rw [List.append_assoc] at t2
    exact t2
theorem b_22 (hc : c < 14) (h0 : f 0 = nI m) (he : e + 2 ≤ 12) (hF : x_CF S c f T) (ht : x_TC S tr) (hl : tr.length + 3 ≤ 16) : x_Bd xs (d + 4) 22 e c tr [22, 21, 20] (nI c + x_wsum T (nI m) 9 - 1000) S := by
  have he : e ≤ 12 := by omega
  refine x_Ci_of (by rw [ml_93]; rfl) (T_93_0 (by decide) ?_)
  rw [if_pos (show nI e ≤ 12 from nI_le (b := 12) he (by decide))]
  refine ⟨_, c_leave (x := 22) ht (by omega), ?_⟩
  rintro S1 ⟨t1, f1⟩
  rw [if_neg (show ¬ nI 22 = 10 by decide), if_neg (show ¬ nI 22 = 11 by decide), if_neg (show ¬ nI 22 = 12 by decide), if_neg (show ¬ nI 22 = 13 by decide), if_neg (show ¬ nI 22 = 14 by decide), if_neg (show ¬ nI 22 = 15 by decide), if_neg (show ¬ nI 22 = 16 by decide), if_neg (show ¬ nI 22 = 17 by decide), if_neg (show ¬ nI 22 = 18 by decide), if_neg (show ¬ nI 22 = 19 by decide), if_neg (show ¬ nI 22 = 20 by decide), if_neg (show ¬ nI 22 = 21 by decide), if_pos (show nI 22 = 22 from rfl)]
  rw [← nI_succ]
  refine ⟨_, b_21 hc h0 (by omega) (hF.fr f1) t1 (by rw [List.length_append]; show tr.length + 1 + 2 ≤ 16; omega), ?_⟩
  rintro v S2 ⟨rfl, t2, f2⟩
  refine ⟨_, rfl, rfl, ?_, f1.tr f2⟩
  rw [List.append_assoc] at t2
  exact t2
theorem b_24 (hc : c < 14) (h0 : f 0 = nI m) (he : e + 2 ≤ 12) (hF : x_CF S c f T) (ht : x_TC S tr) (hl : tr.length + 3 ≤ 16) : x_Bd xs (d + 4) 24 e c tr [24, 21, 20] (nI c + x_wsum T (nI m) 9 + 500) S := by
  have he : e ≤ 12 := by omega
  refine x_Ci_of (by rw [ml_93]; rfl) (T_93_0 (by decide) ?_)
  rw [if_pos (show nI e ≤ 12 from nI_le (b := 12) he (by decide))]
  refine ⟨_, c_leave (x := 24) ht (by omega), ?_⟩
  rintro S1 ⟨t1, f1⟩
  rw [if_neg (show ¬ nI 24 = 10 by decide), if_neg (show ¬ nI 24 = 11 by decide), if_neg (show ¬ nI 24 = 12 by decide), if_neg (show ¬ nI 24 = 13 by decide), if_neg (show ¬ nI 24 = 14 by decide), if_neg (show ¬ nI 24 = 15 by decide), if_neg (show ¬ nI 24 = 16 by decide), if_neg (show ¬ nI 24 = 17 by decide), if_neg (show ¬ nI 24 = 18 by decide), if_neg (show ¬ nI 24 = 19 by decide), if_neg (show ¬ nI 24 = 20 by decide), if_neg (show ¬ nI 24 = 21 by decide), if_neg (show ¬ nI 24 = 22 by decide), if_neg (show ¬ nI 24 = 23 by decide), if_pos (show nI 24 = 24 from rfl)]
  rw [← nI_succ]
  refine ⟨_, b_21 hc h0 (by omega) (hF.fr f1) t1 (by rw [List.length_append]; show tr.length + 1 + 2 ≤ 16; omega), ?_⟩
  rintro v S2 ⟨rfl, t2, f2⟩
  refine ⟨_, rfl, rfl, ?_, f1.tr f2⟩
  rw [List.append_assoc] at t2
  exact t2
theorem b_14 (hc : c < 14) (hm : m < 512) (h0 : f 0 = nI m) (he : e + 1 ≤ 12) (hF : x_CF S c f T) (ht : x_TC S tr) (hl : tr.length + 2 ≤ 16) : x_Bd xs (d + 3) 14 e c tr [14, 10] (nI (x_pop m 14) - 100) S := by
  have he : e ≤ 12 := by omega
  refine x_Ci_of (by rw [ml_93]; rfl) (T_93_0 (by decide) ?_)
  rw [if_pos (show nI e ≤ 12 from nI_le (b := 12) he (by decide))]
  refine ⟨_, c_leave (x := 14) ht (by omega), ?_⟩
  rintro S1 ⟨t1, f1⟩
  rw [if_neg (show ¬ nI 14 = 10 by decide), if_neg (show ¬ nI 14 = 11 by decide), if_neg (show ¬ nI 14 = 12 by decide), if_neg (show ¬ nI 14 = 13 by decide), if_pos (show nI 14 = 14 from rfl)]
  rw [← nI_succ]
  refine ⟨_, b_10 hc hm h0 (by omega) (hF.fr f1) t1 (by rw [List.length_append]; show tr.length + 1 + 1 ≤ 16; omega), ?_⟩
  rintro v S2 ⟨rfl, t2, f2⟩
  refine ⟨_, rfl, rfl, ?_, f1.tr f2⟩
  rw [List.append_assoc] at t2
  exact t2
theorem c_bodyFor {what kd : Nat} (hw : what < 2) (hc : c < 14) (hm : m < 512) (h0 : f 0 = nI m) (hF : x_CF S c f T) (hkd : x_kd2 (x_pop m 14) (x_nwy f 8) = kd) (hk6 : kd < 6) : x_Cr xs (d + 5) 92 [.ref 12, .int (nI c), .int (nI what)] S (x_oa xs (1 + what) kd) := by
  refine x_Ci_of (by rw [ml_92]; rfl) (T_92_0 (by decide) ?_)
  have key : ∀ s0 : Nat, 0 < s0 → s0 ≤ 2 → x_E xs (d + 5) 92 13 [.ref 12, .int (nI c), .int (nI what), .null, .null] [.ref s0] S (fun r S' => ∃ v : Int32, r = some (.int v) ∧ v = x_oa xs s0 kd ∧ S' = S) := by
    intro s0 hs0 hs2
    refine T_92_13 (by decide) hs2 (x_rd (c_kindOf hc hm hF.1 h0) ?_)
    have hol : x_ol xs s0 = 6 := if_neg (show ¬ s0 = 0 by omega)
    rw [hkd, hol, if_neg (nI_pos (by omega)), if_neg (show ¬ Int32.ofNat 6 ≤ nI kd from nI_ge (b := 6) hk6 (by decide)), nI_clamp (by omega)]
    exact ⟨x_ib_n hk6 (by decide), x_rt_i rfl⟩
  rcases (by omega : what = 0 ∨ what = 1) with rfl | rfl
  · rw [if_pos (show nI 0 = 0 from rfl)]
    exact key 1 (by omega) (by omega)
  · rw [if_neg (show ¬ nI 1 = 0 by decide)]
    exact key 2 (by omega) (by omega)
theorem b_23 (hc : c < 14) (hm : m < 512) (h0 : f 0 = nI m) (hkd : x_kd2 (x_pop m 14) (x_nwy f 8) = 2) (he : e + 2 ≤ 12) (hF : x_CF S c f T) (ht : x_TC S tr) (hl : tr.length + 4 ≤ 16) : x_Bd xs (d + 6) 23 e c tr [23, 20, 14, 10] (nI c + nI (x_pop m 14) - 100) S := by
  have he : e ≤ 12 := by omega
  refine x_Ci_of (by rw [ml_93]; rfl) (T_93_0 (by decide) ?_)
  rw [if_pos (show nI e ≤ 12 from nI_le (b := 12) he (by decide))]
  refine ⟨_, c_leave (x := 23) ht (by omega), ?_⟩
  rintro S1 ⟨t1, f1⟩
  rw [if_neg (show ¬ nI 23 = 10 by decide), if_neg (show ¬ nI 23 = 11 by decide), if_neg (show ¬ nI 23 = 12 by decide), if_neg (show ¬ nI 23 = 13 by decide), if_neg (show ¬ nI 23 = 14 by decide), if_neg (show ¬ nI 23 = 15 by decide), if_neg (show ¬ nI 23 = 16 by decide), if_neg (show ¬ nI 23 = 17 by decide), if_neg (show ¬ nI 23 = 18 by decide), if_neg (show ¬ nI 23 = 19 by decide), if_neg (show ¬ nI 23 = 20 by decide), if_neg (show ¬ nI 23 = 21 by decide), if_neg (show ¬ nI 23 = 22 by decide), if_pos (show nI 23 = 23 from rfl)]
  rw [← nI_succ]
  refine ⟨_, b_20 (c := c) (by omega) t1 (by rw [List.length_append]; show tr.length + 1 + 1 ≤ 16; omega), ?_⟩
  rintro v S2 ⟨rfl, t2, f2⟩
  have F2 := (hF.fr f1).fr f2
  refine x_rd (c_bodyFor (what := 0) (by omega) hc hm h0 F2 hkd (by omega)) ?_
  rw [show x_oa xs (1 + 0) 2 = nI 14 from rfl]
  refine ⟨_, b_14 hc hm h0 (by omega) F2 t2 (by rw [List.length_append, List.length_append]; show tr.length + 1 + 1 + 2 ≤ 16; omega), ?_⟩
  rintro v S3 ⟨rfl, t3, f3⟩
  refine ⟨_, rfl, ?_, ?_, (f1.tr f2).tr f3⟩
  · grind
  · rw [List.append_assoc, List.append_assoc] at t3
    exact t3
theorem b_mark {kd : Nat} (hc : c < 14) (hm : m < 512) (h0 : f 0 = nI m) (hkd : x_kd2 (x_pop m 14) (x_nwy f 8) = kd) (hk0 : 0 < kd) (hk6 : kd < 6) (he : e + 2 ≤ 12) (hF : x_CF S c f T) (ht : x_TC S tr) (hl : tr.length + 4 ≤ 16) : ∃ num : Nat, x_oa xs 2 kd = nI num ∧ x_Bd xs (d + 6) num e c tr (x_mkt kd) (x_mkv kd (nI (x_pop m 14)) (x_wsum T (nI m) 9) (nI c)) S := by
  rcases (by omega : kd = 1 ∨ kd = 2 ∨ kd = 3 ∨ kd = 4 ∨ kd = 5) with rfl | rfl | rfl | rfl | rfl
  · exact ⟨21, rfl, b_21 hc h0 (by omega) hF ht (by omega)⟩
  · exact ⟨23, rfl, b_23 hc hm h0 hkd (by omega) hF ht (by omega)⟩
  · exact ⟨21, rfl, b_21 hc h0 (by omega) hF ht (by omega)⟩
  · exact ⟨24, rfl, b_24 hc h0 (by omega) hF ht (by omega)⟩
  · exact ⟨22, rfl, b_22 hc h0 (by omega) hF ht (by omega)⟩
theorem b_11 {kd : Nat} (hc : c < 14) (hm : m < 512) (h0 : f 0 = nI m) (hkd : x_kd2 (x_pop m 14) (x_nwy f 8) = kd) (hk0 : 0 < kd) (hk6 : kd < 6) (he : e + 3 ≤ 12) (hF : x_CF S c f T) (ht : x_TC S tr) (hl : tr.length + 6 ≤ 16) : x_Bd xs (d + 7) 11 e c tr (11 :: 10 :: x_mkt kd) (nI (x_pop m 14) + x_mkv kd (nI (x_pop m 14)) (x_wsum T (nI m) 9) (nI c)) S := by
  have he : e ≤ 12 := by omega
  refine x_Ci_of (by rw [ml_93]; rfl) (T_93_0 (by decide) ?_)
  rw [if_pos (show nI e ≤ 12 from nI_le (b := 12) he (by decide))]
  refine ⟨_, c_leave (x := 11) ht (by omega), ?_⟩
  rintro S1 ⟨t1, f1⟩
  rw [if_neg (show ¬ nI 11 = 10 by decide), if_pos (show nI 11 = 11 from rfl)]
  rw [← nI_succ]
  refine ⟨_, b_10 hc hm h0 (by omega) (hF.fr f1) t1 (by rw [List.length_append]; show tr.length + 1 + 1 ≤ 16; omega), ?_⟩
  rintro v S2 ⟨rfl, t2, f2⟩
  have F2 := (hF.fr f1).fr f2
  refine x_rd (c_bodyFor (what := 1) (by omega) hc hm h0 F2 hkd hk6) ?_
  obtain ⟨num, e1, e2⟩ := b_mark (xs := xs) (d := d) (S := S2) (tr := tr ++ [11] ++ [10]) (e := e + 1) hc hm h0 hkd hk0 hk6 (by omega) F2 t2 (by rw [List.length_append, List.length_append]; show tr.length + 1 + 1 + 4 ≤ 16; omega)
  rw [show x_oa xs (1 + 1) kd = nI num from e1]
  refine ⟨_, e2, ?_⟩
  rintro v S3 ⟨rfl, t3, f3⟩
  refine ⟨_, rfl, rfl, ?_, (f1.tr f2).tr f3⟩
  rw [List.append_assoc, List.append_assoc] at t3
  exact t3
theorem b_12 {kd : Nat} (hc : c < 14) (hm : m < 512) (h0 : f 0 = nI m) (hkd : x_kd2 (x_pop m 14) (x_nwy f 8) = kd) (hk0 : 0 < kd) (hk6 : kd < 6) (he : e + 4 ≤ 12) (hF : x_CF S c f T) (ht : x_TC S tr) (hl : tr.length + 7 ≤ 16) : x_Bd xs (d + 8) 12 e c tr (12 :: 11 :: 10 :: x_mkt kd) (2 * (nI (x_pop m 14) + x_mkv kd (nI (x_pop m 14)) (x_wsum T (nI m) 9) (nI c))) S := by
  have he : e ≤ 12 := by omega
  refine x_Ci_of (by rw [ml_93]; rfl) (T_93_0 (by decide) ?_)
  rw [if_pos (show nI e ≤ 12 from nI_le (b := 12) he (by decide))]
  refine ⟨_, c_leave (x := 12) ht (by omega), ?_⟩
  rintro S1 ⟨t1, f1⟩
  rw [if_neg (show ¬ nI 12 = 10 by decide), if_neg (show ¬ nI 12 = 11 by decide), if_pos (show nI 12 = 12 from rfl)]
  rw [← nI_succ]
  refine ⟨_, b_11 hc hm h0 hkd hk0 hk6 (by omega) (hF.fr f1) t1 (by rw [List.length_append]; show tr.length + 1 + 6 ≤ 16; omega), ?_⟩
  rintro v S2 ⟨rfl, t2, f2⟩
  refine ⟨_, rfl, rfl, ?_, f1.tr f2⟩
  rw [List.append_assoc] at t2
  exact t2
theorem b_13 {kd : Nat} (hc : c < 14) (hm : m < 512) (h0 : f 0 = nI m) (hkd : x_kd2 (x_pop m 14) (x_nwy f 8) = kd) (hk0 : 0 < kd) (hk6 : kd < 6) (he : e + 4 ≤ 12) (hF : x_CF S c f T) (ht : x_TC S tr) (hl : tr.length + 7 ≤ 16) : x_Bd xs (d + 8) 13 e c tr (13 :: 11 :: 10 :: x_mkt kd) (-(nI (x_pop m 14) + x_mkv kd (nI (x_pop m 14)) (x_wsum T (nI m) 9) (nI c))) S := by
  have he : e ≤ 12 := by omega
  refine x_Ci_of (by rw [ml_93]; rfl) (T_93_0 (by decide) ?_)
  rw [if_pos (show nI e ≤ 12 from nI_le (b := 12) he (by decide))]
  refine ⟨_, c_leave (x := 13) ht (by omega), ?_⟩
  rintro S1 ⟨t1, f1⟩
  rw [if_neg (show ¬ nI 13 = 10 by decide), if_neg (show ¬ nI 13 = 11 by decide), if_neg (show ¬ nI 13 = 12 by decide), if_pos (show nI 13 = 13 from rfl)]
  rw [← nI_succ]
  refine ⟨_, b_11 hc hm h0 hkd hk0 hk6 (by omega) (hF.fr f1) t1 (by rw [List.length_append]; show tr.length + 1 + 6 ≤ 16; omega), ?_⟩
  rintro v S2 ⟨rfl, t2, f2⟩
  refine ⟨_, rfl, rfl, ?_, f1.tr f2⟩
  rw [List.append_assoc] at t2
  exact t2
theorem b_size {kd : Nat} (hc : c < 14) (hm : m < 512) (h0 : f 0 = nI m) (hkd : x_kd2 (x_pop m 14) (x_nwy f 8) = kd) (hk0 : 0 < kd) (hk6 : kd < 6) (he : e + 4 ≤ 12) (hF : x_CF S c f T) (ht : x_TC S tr) (hl : tr.length + 7 ≤ 16) : ∃ num : Nat, x_oa xs 1 kd = nI num ∧ x_Bd xs (d + 8) num e c tr (x_szt kd) (x_szv kd (nI (x_pop m 14)) (x_wsum T (nI m) 9) (nI c)) S := by
  rcases (by omega : kd = 1 ∨ kd = 2 ∨ kd = 3 ∨ kd = 4 ∨ kd = 5) with rfl | rfl | rfl | rfl | rfl
  · exact ⟨11, rfl, b_11 hc hm h0 hkd hk0 hk6 (by omega) hF ht (by omega)⟩
  · exact ⟨14, rfl, b_14 hc hm h0 (by omega) hF ht (by omega)⟩
  · exact ⟨12, rfl, b_12 hc hm h0 hkd hk0 hk6 (by omega) hF ht (by omega)⟩
  · exact ⟨13, rfl, b_13 hc hm h0 hkd hk0 hk6 (by omega) hF ht (by omega)⟩
  · exact ⟨12, rfl, b_12 hc hm h0 hkd hk0 hk6 (by omega) hF ht (by omega)⟩
/-! the reference -/
theorem m_10 (hc : c < 14) (hm : m < 512) (hF : x_MF S c m f T) (ht : x_TrM S tr) (hl : tr.length + 1 ≤ 16) : x_Bm xs (d + 2) 166 c tr [10] (nI (x_pop m 14)) S := by
  refine x_Ci_of (by rw [ml_166]; rfl) (T_166_0 ?_)
  refine ⟨_, c_leaveM (x := 10) ht (by omega), ?_⟩
  rintro S1 ⟨t1, f1⟩
  have F1 := hF.fr f1
  rw [show (2 : Int32) + nI c = nI (2 + c) from nI_add 2 c, nI_clamp (n := 2 + c) (by omega), F1.2.1]
  exact ⟨x_ib_n (by omega) (by decide), x_rd (c_bits (by omega)) ⟨_, rfl, rfl, t1, f1⟩⟩
theorem m_20 (ht : x_TrM S tr) (hl : tr.length + 1 ≤ 16) : x_Bm xs (d + 2) 169 c tr [20] (nI c) S := by
  refine x_Ci_of (by rw [ml_169]; rfl) (T_169_0 ?_)
  refine ⟨_, c_leaveM (x := 20) ht (by omega), ?_⟩
  rintro S1 ⟨t1, f1⟩
  exact ⟨_, rfl, rfl, t1, f1⟩
theorem m_21 (hc : c < 14) (hF : x_MF S c m f T) (ht : x_TrM S tr) (hl : tr.length + 2 ≤ 16) : x_Bm xs (d + 3) 168 c tr [21, 20] (nI c + x_wsum T (nI m) 9) S := by
  refine x_Ci_of (by rw [ml_168]; rfl) (T_168_0 ?_)
  refine ⟨_, c_leaveM (x := 21) ht (by omega), ?_⟩
  rintro S1 ⟨t1, f1⟩
  refine ⟨_, m_20 (c := c) t1 (by rw [List.length_append]; show tr.length + 1 + 1 ≤ 16; omega), ?_⟩
  rintro v S2 ⟨rfl, t2, f2⟩
  have F2 := (hF.fr f1).fr f2
  rw [show (2 : Int32) + nI c = nI (2 + c) from nI_add 2 c, nI_clamp (n := 2 + c) (by omega), F2.2.1]
  refine ⟨x_ib_n (by omega) (by decide), x_rd c_worthOfM ⟨_, rfl, ?_, ?_, f1.tr f2⟩⟩
  · rw [show x_wsum (fun k => S2 57 (16 + k)) (nI m) 9 = x_wsum T (nI m) 9 from x_wsum_c 9 (fun j hj => F2.2.2 j hj)]
  · rw [List.append_assoc] at t2
    exact t2
theorem x_mkt_n (kd : Nat) : (x_mkt kd).length ≤ 4 := by unfold x_mkt; split; decide; split; decide; split; decide; decide
theorem m_mark {kd : Nat} (hc : c < 14) (hm : m < 512) (h0 : f 0 = nI m) (hkd : x_kd2 (x_pop m 14) (x_nwy f 8) = kd) (hk6 : kd < 6) (hF : x_MF S c m f T) (ht : x_TrM S tr) (hl : tr.length + 4 ≤ 16) : x_Bm xs (d + 4) 167 c tr (x_mkt kd) (x_mkv kd (nI (x_pop m 14)) (x_wsum T (nI m) 9) (nI c)) S := by
  refine x_Ci_of (by rw [ml_167]; rfl) (T_167_0 (x_rd (c_kindOfM hc hm hF.1 hF.2.1) ?_))
  rw [hkd]
  unfold x_mkv x_mkt
  by_cases h5 : kd = 5
  · subst h5
    rw [if_pos (show nI 5 = 5 from rfl)]
    refine ⟨_, c_leaveM (x := 22) ht (by omega), ?_⟩
    rintro S1 ⟨t1, f1⟩
    refine ⟨_, m_21 hc (hF.fr f1) t1 (by rw [List.length_append]; show tr.length + 1 + 2 ≤ 16; omega), ?_⟩
    rintro v S2 ⟨rfl, t2, f2⟩
    rw [List.append_assoc] at t2
    exact ⟨_, rfl, rfl, t2, f1.tr f2⟩
  · rw [if_neg (show ¬ nI kd = 5 from x_nq (r := 5) (by omega) (by omega) h5), if_neg h5, if_neg h5]
    by_cases h4 : kd = 4
    · subst h4
      rw [if_pos (show nI 4 = 4 from rfl)]
      refine ⟨_, c_leaveM (x := 24) ht (by omega), ?_⟩
      rintro S1 ⟨t1, f1⟩
      refine ⟨_, m_21 hc (hF.fr f1) t1 (by rw [List.length_append]; show tr.length + 1 + 2 ≤ 16; omega), ?_⟩
      rintro v S2 ⟨rfl, t2, f2⟩
      rw [List.append_assoc] at t2
      exact ⟨_, rfl, rfl, t2, f1.tr f2⟩
    · rw [if_neg (show ¬ nI kd = 4 from x_nq (r := 4) (by omega) (by omega) h4), if_neg h4, if_neg h4]
      by_cases h2 : kd = 2
      · subst h2
        rw [if_pos (show nI 2 = 2 from rfl)]
        refine ⟨_, c_leaveM (x := 23) ht (by omega), ?_⟩
        rintro S1 ⟨t1, f1⟩
        refine ⟨_, m_20 (c := c) t1 (by rw [List.length_append]; show tr.length + 1 + 1 ≤ 16; omega), ?_⟩
        rintro v S2 ⟨rfl, t2, f2⟩
        refine ⟨_, c_leaveM (x := 14) t2 (by rw [List.length_append, List.length_append]; show tr.length + 1 + 1 < 16; omega), ?_⟩
        rintro S3 ⟨t3, f3⟩
        refine ⟨_, m_10 hc hm (((hF.fr f1).fr f2).fr f3) t3 (by rw [List.length_append, List.length_append, List.length_append]; show tr.length + 1 + 1 + 1 + 1 ≤ 16; omega), ?_⟩
        rintro v S4 ⟨rfl, t4, f4⟩
        rw [List.append_assoc, List.append_assoc, List.append_assoc] at t4
        exact ⟨_, rfl, rfl, t4, ((f1.tr f2).tr f3).tr f4⟩
      · rw [if_neg (show ¬ nI kd = 2 from x_nq (r := 2) (by omega) (by omega) h2), if_neg h2, if_neg h2]
        refine ⟨_, m_21 hc hF ht (by omega), ?_⟩
        rintro v S2 ⟨rfl, t2, f2⟩
        exact ⟨_, rfl, rfl, t2, f2⟩
theorem m_11 {kd : Nat} (hc : c < 14) (hm : m < 512) (h0 : f 0 = nI m) (hkd : x_kd2 (x_pop m 14) (x_nwy f 8) = kd) (hk6 : kd < 6) (hF : x_MF S c m f T) (ht : x_TrM S tr) (hl : tr.length + 6 ≤ 16) : x_Bm xs (d + 5) 165 c tr (11 :: 10 :: x_mkt kd) (nI (x_pop m 14) + x_mkv kd (nI (x_pop m 14)) (x_wsum T (nI m) 9) (nI c)) S := by
  refine x_Ci_of (by rw [ml_165]; rfl) (T_165_0 ?_)
  refine ⟨_, c_leaveM (x := 11) ht (by omega), ?_⟩
  rintro S1 ⟨t1, f1⟩
  refine ⟨_, m_10 hc hm (hF.fr f1) t1 (by rw [List.length_append]; show tr.length + 1 + 1 ≤ 16; omega), ?_⟩
  rintro v S2 ⟨rfl, t2, f2⟩
  refine ⟨_, m_mark hc hm h0 hkd hk6 ((hF.fr f1).fr f2) t2 (by rw [List.length_append, List.length_append]; show tr.length + 1 + 1 + 4 ≤ 16; omega), ?_⟩
  rintro v S3 ⟨rfl, t3, f3⟩
  rw [List.append_assoc, List.append_assoc] at t3
  exact ⟨_, rfl, rfl, t3, (f1.tr f2).tr f3⟩
theorem m_size {kd : Nat} (hc : c < 14) (hm : m < 512) (h0 : f 0 = nI m) (hkd : x_kd2 (x_pop m 14) (x_nwy f 8) = kd) (hk6 : kd < 6) (hF : x_MF S c m f T) (ht : x_TrM S tr) (hl : tr.length + 7 ≤ 16) : x_Bm xs (d + 6) 163 c tr (x_szt kd) (x_szv kd (nI (x_pop m 14)) (x_wsum T (nI m) 9) (nI c)) S := by
  refine x_Ci_of (by rw [ml_163]; rfl) (T_163_0 (x_rd (c_kindOfM hc hm hF.1 hF.2.1) ?_))
  rw [hkd]
  unfold x_szv x_szt
  have big : ∀ (q : Nat) (S1 : x_M), x_TrM S1 (tr ++ [q]) → x_FrM S S1 → ∃ P : Int32 → x_M → Prop, x_Ci xs (d + 5) 165 [.ref 56, .int (nI c)] S1 P ∧ ∀ v S2, P v S2 → (v = nI (x_pop m 14) + x_mkv kd (nI (x_pop m 14)) (x_wsum T (nI m) 9) (nI c) ∧ x_TrM S2 (tr ++ q :: 11 :: 10 :: x_mkt kd) ∧ x_FrM S S2) := by
    intro q S1 t1 f1
    refine ⟨_, m_11 hc hm h0 hkd hk6 (hF.fr f1) t1 (by rw [List.length_append]; show tr.length + 1 + 6 ≤ 16; omega), ?_⟩
    rintro v S2 ⟨rfl, t2, f2⟩
    rw [List.append_assoc] at t2
    exact ⟨rfl, t2, f1.tr f2⟩
  by_cases h3 : kd = 3
  · subst h3
    rw [if_pos (show nI 3 = 3 from rfl), if_pos (Or.inl rfl), if_pos (Or.inl rfl)]
    refine ⟨_, c_leaveM (x := 12) ht (by omega), ?_⟩
    rintro S1 ⟨t1, f1⟩
    obtain ⟨P, p1, p2⟩ := big 12 S1 t1 f1
    refine ⟨P, p1, ?_⟩
    intro v S2 hv
    obtain ⟨rfl, t2, f2⟩ := p2 v S2 hv
    exact ⟨_, rfl, rfl, t2, f2⟩
  · rw [if_neg (show ¬ nI kd = 3 from x_nq (r := 3) (by omega) (by omega) h3)]
    by_cases h5 : kd = 5
    · subst h5
      rw [if_pos (show nI 5 = 5 from rfl), if_pos (Or.inr rfl), if_pos (Or.inr rfl)]
      refine ⟨_, c_leaveM (x := 12) ht (by omega), ?_⟩
      rintro S1 ⟨t1, f1⟩
      obtain ⟨P, p1, p2⟩ := big 12 S1 t1 f1
      refine ⟨P, p1, ?_⟩
      intro v S2 hv
      obtain ⟨rfl, t2, f2⟩ := p2 v S2 hv
      exact ⟨_, rfl, rfl, t2, f2⟩
    · have n35 : ¬ (kd = 3 ∨ kd = 5) := by omega
      rw [if_neg (show ¬ nI kd = 5 from x_nq (r := 5) (by omega) (by omega) h5), if_neg n35, if_neg n35]
      by_cases h4 : kd = 4
      · subst h4
        rw [if_pos (show nI 4 = 4 from rfl), if_pos rfl, if_pos rfl]
        refine ⟨_, c_leaveM (x := 13) ht (by omega), ?_⟩
        rintro S1 ⟨t1, f1⟩
        obtain ⟨P, p1, p2⟩ := big 13 S1 t1 f1
        refine ⟨P, p1, ?_⟩
        intro v S2 hv
        obtain ⟨rfl, t2, f2⟩ := p2 v S2 hv
        exact ⟨_, rfl, rfl, t2, f2⟩
      · rw [if_neg (show ¬ nI kd = 4 from x_nq (r := 4) (by omega) (by omega) h4), if_neg h4, if_neg h4]
        by_cases h2 : kd = 2
        · subst h2
          rw [if_pos (show nI 2 = 2 from rfl)]
          refine ⟨_, c_leaveM (x := 14) ht (by omega), ?_⟩
          rintro S1 ⟨t1, f1⟩
          refine ⟨_, m_10 hc hm (hF.fr f1) t1 (by rw [List.length_append]; show tr.length + 1 + 1 ≤ 16; omega), ?_⟩
          rintro v S2 ⟨rfl, t2, f2⟩
          rw [List.append_assoc] at t2
          exact ⟨_, rfl, rfl, t2, f1.tr f2⟩
        · rw [if_neg (show ¬ nI kd = 2 from x_nq (r := 2) (by omega) (by omega) h2), if_neg h2, if_neg h2]
          refine ⟨_, m_11 hc hm h0 hkd hk6 hF ht (by omega), ?_⟩
          rintro v S2 ⟨rfl, t2, f2⟩
          exact ⟨_, rfl, rfl, t2, f2⟩
theorem x_szt_n (kd : Nat) : (x_szt kd).length ≤ 7 := by
  have h := x_mkt_n kd
  unfold x_szt
  split
  · simp only [List.length_cons]; omega
  · split
    · simp only [List.length_cons]; omega
    · split
      · decide
      · simp only [List.length_cons]; omega
theorem o_ask {a b : Int32} (H : x_Inv S) : x_Op xs (d + 9) 91 162 [.int a, .int b] S := by
  refine o_card (a := a) H (fun n hn h => ?_) (fun n hn4 hn h => ?_) (fun n c n1 n2 n3 hc ha p1 p2 p4 => ?_)
  · refine x_Ci_of (by rw [ml_91]; rfl) (T_91_0 (x_rd c_isCard ?_))
    rw [if_pos (x_cardC hn h)]
    exact x_rt_i rfl
  · refine x_Ci_of (by rw [ml_162]; rfl) (T_162_0 (x_rd c_isCardM ?_))
    rw [if_pos (x_cardM hn4 hn h)]
    exact x_rt_i rfl
  · subst ha
    by_cases hb : 0 ≤ b ∧ b ≤ 1
    case neg =>
      refine x_Op_rd (v := -1000001) H ?_ ?_
      · refine x_Ci_of (by rw [ml_91]; rfl) (T_91_0 (x_rd c_isCard ?_))
        rw [if_neg (x_cardC' n2 hc n1), if_neg (fun z => hb (by rw [z]; decide)), if_neg (fun z => hb (by rw [z]; decide))]
        exact x_rt_i rfl
      · refine x_Ci_of (by rw [ml_162]; rfl) (T_162_0 (x_rd c_isCardM ?_))
        rw [if_neg (x_cardM' n3 hc n1)]
        refine x_rd c_in ?_
        rw [x_in01, if_pos (x_b_0.mpr (fun z => hb (by rw [decide_eq_true_eq] at z; exact z)))]
        exact x_rt_i rfl
    case pos =>
    obtain ⟨what, hw, rfl⟩ := x_01_n hb
    obtain ⟨m, m1, m2, m3, m4⟩ := x_On_c p4 hc
    have hkf := x_kd2_f (x_pop m 14) (x_nwy (fun w => nI (x_lieN m w)) 8)
    generalize hkd : x_kd2 (x_pop m 14) (x_nwy (fun w => nI (x_lieN m w)) 8) = kd at hkf
    have hk0 : 0 < kd ∧ kd < 6 := by omega
    have hT : ∀ j, j < 9 → S 57 (16 + j) = S 13 j := fun j hj => (p4.1 j hj).1.symm
    have fin : ∀ (l : List Nat) (v : Int32), l.length ≤ 16 → x_Ci xs (d + 9) 91 [.ref 8, .int (nI c), .int (nI what)] S (fun w S' => w = v ∧ x_TC S' l ∧ x_FrC S S') → (∀ U : x_M, x_FrC S U → x_Ci xs (d + 9) 162 [.ref 56, .int (nI c), .int (nI what)] U (fun w S' => w = v ∧ x_TrM S' l ∧ x_FrM U S')) → x_Op xs (d + 9) 91 162 [.int (nI c), .int (nI what)] S := by
      intro l v hl y1 y2
      refine x_Ci_weak y1 ?_
      rintro w U ⟨rfl, u1, u2⟩
      refine x_Ci_weak (y2 U u2) ?_
      rintro w S2 ⟨rfl, v1, v2⟩
      refine ⟨rfl, ?_⟩
      have key : ∀ p k, ¬ (p = 28 ∧ k = 1) → p ≠ 29 → ¬ (p = 56 ∧ k = 9) → p ≠ 62 → S2 p k = S p k := fun p k z1 z2 z3 z4 => (v2 p k z3 z4).trans (u2 p k z1 z2)
      obtain ⟨h1, h2, ⟨h3, h4, h5⟩, h6, h7, h8⟩ := H
      refine ⟨fun r hr => x_RI_c hr (fun p q hp => key p q (by omega) (by omega) (by omega) (by omega)) (h1 r hr), x_TI_c (fun p q hp => key p q (by omega) (by omega) (by omega) (by omega)) h2, ⟨x_GI_c (fun p q hp => key p q (by omega) (by omega) (by omega) (by omega)) h3, x_GI_c (fun p q hp => key p q (by omega) (by omega) (by omega) (by omega)) h4, x_GI_c (fun p q hp => key p q (by omega) (by omega) (by omega) (by omega)) h5⟩, x_UI_c (fun p q hp => key p q (by omega) (by omega) (by omega) (by omega)) h6, ⟨l.length, hl, ?_, v1.1, fun i hi => ?_⟩, x_FI_c (fun p q hp => key p q (by omega) (by omega) (by omega) (by omega)) h8⟩
      · rw [v2 28 1 (by omega) (by omega)]; exact u1.1
      · rw [v1.2 i hi, v2 29 i (by omega) (by omega), u1.2 i hi]
    have CF : ∀ S1, S1 = x_up S 28 1 0 → x_CF S1 c (fun w => nI (x_lieN m w)) (S 13) ∧ x_TC S1 [] ∧ x_FrC S S1 := by
      rintro S1 rfl
      exact ⟨⟨fun w hw => by rw [x_up_ne (by omega)]; exact m3 w hw, fun j hj => x_up_ne (by omega)⟩, ⟨by rw [x_up_at]; rfl, fun i hi => absurd hi (Nat.not_lt_zero i)⟩, fun p k z1 z2 => x_up_ne z1⟩
    have MF : ∀ U, x_FrC S U → ∀ S1, S1 = x_up U 56 9 0 → x_MF S1 c m (fun w => nI (x_lieN m w)) (S 13) ∧ x_TrM S1 [] ∧ x_FrM U S1 := by
      rintro U hU S1 rfl
      exact ⟨⟨fun w hw => by rw [x_up_ne (by omega), hU _ _ (by omega) (by omega)]; exact m4 w hw, by rw [x_up_ne (by omega), hU _ _ (by omega) (by omega)]; exact m2, fun j hj => by rw [x_up_ne (by omega), hU _ _ (by omega) (by omega)]; exact hT j hj⟩, ⟨by rw [x_up_at]; rfl, fun i hi => absurd hi (Nat.not_lt_zero i)⟩, fun p k z1 z2 => x_up_ne z1⟩
    have startC : ∀ Q, x_E xs (d + 9) 91 20 [.ref 8, .int (nI c), .int (nI what)] [] S Q → x_E xs (d + 9) 91 0 [.ref 8, .int (nI c), .int (nI what)] [] S Q := by
      intro Q hQ
      refine T_91_0 (x_rd c_isCard ?_)
      rw [if_neg (x_cardC' n2 hc n1)]
      by_cases h0 : what = 0
      · rw [if_pos (by rw [h0]; rfl)]; exact hQ
      · rw [if_neg (by rw [nI_eq0 (by omega)]; exact h0), if_pos (by rw [show what = 1 by omega]; rfl)]; exact hQ
    rcases (by omega : what = 0 ∨ what = 1) with h0 | h0
    · subst h0
      refine fin (x_szt kd) (x_szv kd (nI (x_pop m 14)) (x_wsum (S 13) (nI m) 9) (nI c)) (by have := x_szt_n kd; omega) ?_ (fun U hU => ?_)
      · refine x_Ci_of (by rw [ml_91]; rfl) (startC _ (T_91_20 ?_))
        intro S1 hS1
        obtain ⟨F1, t1, f1⟩ := CF S1 hS1
        refine x_rd (c_bodyFor (what := 0) (by omega) (by omega) m1 rfl F1 hkd hk0.2) ?_
        obtain ⟨num, e1, e2⟩ := b_size (xs := xs) (d := d) (S := S1) (tr := []) (e := 0) (c := c) (m := m) (by omega) m1 rfl hkd hk0.1 hk0.2 (by omega) F1 t1 (by decide)
        rw [show x_oa xs (1 + 0) kd = nI num from e1]
        refine ⟨_, e2, ?_⟩
        rintro v S2 ⟨rfl, t2, f2⟩
        exact ⟨_, rfl, rfl, t2, f1.tr f2⟩
      · refine x_Ci_of (by rw [ml_162]; rfl) (T_162_0 (x_rd c_isCardM ?_))
        rw [hU 57 1 (by omega) (by omega), if_neg (x_cardM' n3 hc n1)]
        refine x_rd c_in ?_
        rw [x_in01, if_neg (x_b_ne (by rw [decide_eq_true_eq]; exact hb))]
        intro S1 hS1
        obtain ⟨F1, t1, f1⟩ := MF U hU S1 hS1
        rw [if_pos (show nI 0 = 0 from rfl)]
        refine ⟨_, m_size (c := c) (m := m) (by omega) m1 rfl hkd hk0.2 F1 t1 (by decide), ?_⟩
        rintro v S2 ⟨rfl, t2, f2⟩
        exact ⟨_, rfl, rfl, t2, f1.tr f2⟩
    · subst h0
      refine fin (x_mkt kd) (x_mkv kd (nI (x_pop m 14)) (x_wsum (S 13) (nI m) 9) (nI c)) (by have := x_mkt_n kd; omega) ?_ (fun U hU => ?_)
      · refine x_Ci_of (by rw [ml_91]; rfl) (startC _ (T_91_20 ?_))
        intro S1 hS1
        obtain ⟨F1, t1, f1⟩ := CF S1 hS1
        refine x_rd (c_bodyFor (what := 1) (by omega) (by omega) m1 rfl F1 hkd hk0.2) ?_
        obtain ⟨num, e1, e2⟩ := b_mark (xs := xs) (d := d + 2) (S := S1) (tr := []) (e := 0) (c := c) (m := m) (by omega) m1 rfl hkd hk0.1 hk0.2 (by omega) F1 t1 (by decide)
        rw [show x_oa xs (1 + 1) kd = nI num from e1]
        refine ⟨_, e2, ?_⟩
        rintro v S2 ⟨rfl, t2, f2⟩
        exact ⟨_, rfl, rfl, t2, f1.tr f2⟩
      · refine x_Ci_of (by rw [ml_162]; rfl) (T_162_0 (x_rd c_isCardM ?_))
        rw [hU 57 1 (by omega) (by omega), if_neg (x_cardM' n3 hc n1)]
        refine x_rd c_in ?_
        rw [x_in01, if_neg (x_b_ne (by rw [decide_eq_true_eq]; exact hb))]
        intro S1 hS1
        obtain ⟨F1, t1, f1⟩ := MF U hU S1 hS1
        rw [if_neg (show ¬ nI 1 = 0 by decide)]
        refine ⟨_, m_mark (c := c) (m := m) (by omega) m1 rfl hkd hk0.2 F1 t1 (by decide), ?_⟩
        rintro v S2 ⟨rfl, t2, f2⟩
        exact ⟨_, rfl, rfl, t2, f1.tr f2⟩
end ASK
