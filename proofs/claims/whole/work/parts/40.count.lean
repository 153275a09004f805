/-! HOW MANY BITS -/
def x_pop (l : Nat) : Nat → Nat
  | 0 => 0
  | k + 1 => x_pop l k + (l >>> k &&& 1)
def x_bc1 (l : Nat) : Nat := l - (l >>> 1 &&& 1431655765)
def x_bc2 (l : Nat) : Nat := (l &&& 858993459) + (l >>> 2 &&& 858993459)
def x_bc3 (l : Nat) : Nat := (l + l >>> 4) &&& 252645135
def x_bc4 (l : Nat) : Nat := l + l >>> 8
def x_bc5 (l : Nat) : Nat := l + l >>> 16
def x_bcN (l : Nat) : Nat := x_bc5 (x_bc4 (x_bc3 (x_bc2 (x_bc1 l)))) &&& 63
theorem x_bc_t0 : ((List.range 4096).all fun l => x_bcN l == x_pop l 14) = true := by decide +kernel
theorem x_bc_t1 : ((List.range 4096).all fun l => x_bcN (4096 + l) == x_pop (4096 + l) 14) = true := by decide +kernel
theorem x_bc_t2 : ((List.range 4096).all fun l => x_bcN (8192 + l) == x_pop (8192 + l) 14) = true := by decide +kernel
theorem x_bc_t3 : ((List.range 4096).all fun l => x_bcN (12288 + l) == x_pop (12288 + l) 14) = true := by decide +kernel
theorem x_bc_t {l : Nat} (h : l < 2 ^ 14) : x_bcN l = x_pop l 14 := by
  have key : ∀ o, ((List.range 4096).all fun l => x_bcN (o + l) == x_pop (o + l) 14) = true → o ≤ l → l < o + 4096 → x_bcN l = x_pop l 14 := by
    intro o ho h1 h2
    have h3 := List.all_eq_true.mp ho (l - o) (List.mem_range.mpr (by omega))
    rw [show o + (l - o) = l by omega] at h3
    simpa using h3
  rcases (by omega : l < 4096 ∨ (4096 ≤ l ∧ l < 8192) ∨ (8192 ≤ l ∧ l < 12288) ∨ (12288 ≤ l ∧ l < 16384)) with h1 | h1 | h1 | h1
  · exact key 0 (by simpa using x_bc_t0) (by omega) (by omega)
  · exact key 4096 x_bc_t1 (by omega) (by omega)
  · exact key 8192 x_bc_t2 (by omega) (by omega)
  · exact key 12288 x_bc_t3 (by omega) (by omega)
theorem x_ush {l : Nat} {k : Int32} {kn : Nat} (hl : l < 2 ^ 32) (hk : ((Int32.toUInt32 k &&& Int32.toUInt32 31).toBitVec % 32).toNat = kn) : UInt32.toInt32 ((Int32.toUInt32 (nI l)) >>> (Int32.toUInt32 k &&& Int32.toUInt32 31)) = nI (l >>> kn) := by
  apply Int32.toBitVec.inj
  show ((Int32.toUInt32 (nI l)) >>> (Int32.toUInt32 k &&& Int32.toUInt32 31)).toBitVec = _
  rw [UInt32.toBitVec_shiftRight, nI_bv]
  apply BitVec.eq_of_toNat_eq
  show (BitVec.ofNat 32 l >>> ((Int32.toUInt32 k &&& Int32.toUInt32 31).toBitVec % 32)).toNat = _
  rw [BitVec.ushiftRight_eq', BitVec.toNat_ushiftRight, hk, BitVec.toNat_ofNat, BitVec.toNat_ofNat, Nat.mod_eq_of_lt hl, Nat.mod_eq_of_lt (Nat.lt_of_le_of_lt (Nat.shiftRight_le l kn) hl)]
section COUNT
variable {xs : List Int32} {d : Nat} {S : x_M}
theorem c_bitCount {l : Nat} (hl : l < 2 ^ 14) : x_Cr xs (d + 1) 179 [.int (nI l)] S (nI (x_pop l 14)) := by
  refine x_Ci_of (by rw [ml_179]; rfl) (T_179_0 ?_)
  intro x1 h1 x2 h2 x3 h3 x4 h4 x5 h5
  have b1 : l >>> 1 &&& 1431655765 ≤ l := Nat.le_trans Nat.and_le_left (Nat.shiftRight_le l 1)
  have e1 : x1 = nI (x_bc1 l) := by
    rw [h1, x_ush (kn := 1) (by omega) (by decide), show (1431655765 : Int32) = nI 1431655765 from rfl, nI_and, nI_sub b1]
    rfl
  have l1 : x_bc1 l < 2 ^ 14 := by unfold x_bc1; omega
  have e2 : x2 = nI (x_bc2 (x_bc1 l)) := by
    rw [h2, e1, x_ush (kn := 2) (by omega) (by decide), show (858993459 : Int32) = nI 858993459 from rfl, nI_and, nI_and, nI_add]
    rfl
  have l2 : x_bc2 (x_bc1 l) < 2 ^ 15 := by
    unfold x_bc2
    have a1 : x_bc1 l &&& 858993459 ≤ x_bc1 l := Nat.and_le_left
    have a2 : x_bc1 l >>> 2 &&& 858993459 ≤ x_bc1 l := Nat.le_trans Nat.and_le_left (Nat.shiftRight_le _ _)
    omega
  have e3 : x3 = nI (x_bc3 (x_bc2 (x_bc1 l))) := by
    rw [h3, e2, x_ush (kn := 4) (by omega) (by decide), show (252645135 : Int32) = nI 252645135 from rfl, nI_add, nI_and]
    rfl
  have l3 : x_bc3 (x_bc2 (x_bc1 l)) < 2 ^ 16 := by
    unfold x_bc3
    have a1 : (x_bc2 (x_bc1 l) + x_bc2 (x_bc1 l) >>> 4) &&& 252645135 ≤ x_bc2 (x_bc1 l) + x_bc2 (x_bc1 l) >>> 4 := Nat.and_le_left
    have a2 : x_bc2 (x_bc1 l) >>> 4 ≤ x_bc2 (x_bc1 l) := Nat.shiftRight_le _ _
    omega
  have e4 : x4 = nI (x_bc4 (x_bc3 (x_bc2 (x_bc1 l)))) := by
    rw [h4, e3, x_ush (kn := 8) (by omega) (by decide), nI_add]
    rfl
  have l4 : x_bc4 (x_bc3 (x_bc2 (x_bc1 l))) < 2 ^ 17 := by
    unfold x_bc4
    have a2 : x_bc3 (x_bc2 (x_bc1 l)) >>> 8 ≤ x_bc3 (x_bc2 (x_bc1 l)) := Nat.shiftRight_le _ _
    omega
  have e5 : x5 = nI (x_bc5 (x_bc4 (x_bc3 (x_bc2 (x_bc1 l))))) := by
    rw [h5, e4, x_ush (kn := 16) (by omega) (by decide), nI_add]
    rfl
  refine x_rt_i ?_
  rw [e5, show (63 : Int32) = nI 63 from rfl, nI_and, ← x_bc_t hl]
  rfl
theorem c_bits {l : Nat} (hl : l < 2 ^ 14) : x_Cr xs (d + 1) 136 [.int (nI l)] S (nI (x_pop l 14)) := by
  refine x_Ci_of (by rw [ml_136]; rfl) (T_136_0 ?_)
  have loop : ∀ m k, k + m = 14 → x_E xs (d + 1) 136 4 [.int (nI l), .int (nI (x_pop l k)), .int (nI k)] [] S (fun r S' => ∃ v : Int32, r = some (.int v) ∧ v = nI (x_pop l 14) ∧ S' = S) := by
    intro m
    induction m with
    | zero =>
      intro k hk
      have hk9 : k = 14 := by omega
      subst hk9
      refine T_136_4 ?_
      rw [if_pos (by decide)]
      exact ⟨_, rfl, rfl, rfl⟩
    | succ m ih =>
      intro k hk
      refine T_136_4 ?_
      rw [if_neg (show ¬ (14 : Int32) ≤ nI k from nI_ge (a := k) (b := 14) (by omega) (by decide)), x_bt_n (by omega) (by omega), nI_add, ← nI_succ]
      exact ih (k + 1) (by omega)
  exact loop 14 0 rfl
theorem x_crd {n : Nat} {a : Int32} (hn : n ≤ 14) : (0 ≤ a ∧ a ≤ nI n - 1) ↔ (0 ≤ a ∧ a < nI n) := by
  have e0 := nI_toInt (n := n) (by omega)
  have e1 : (1 : Int32).toInt = 1 := by decide
  have e2 : (nI n - 1).toInt = n - 1 := by rw [x_sub_i (by omega) (by omega), e0, e1]
  rw [x_ge0, Int32.le_iff_toInt_le, Int32.lt_iff_toInt_lt, e2, e0]
  omega
theorem x_crd_n {n : Nat} {a : Int32} (hn : n ≤ 14) (h : 0 ≤ a ∧ a < nI n) : ∃ c, c < n ∧ a = nI c := x_lt_nat (Int32.not_lt.mpr h.1) h.2 (by omega)
theorem x_way_n {a : Int32} (h : 0 ≤ a ∧ a ≤ 7) : ∃ c, c < 8 ∧ a = nI c := by
  obtain ⟨k, hk, e⟩ := x_le_nat (n := 7) (Int32.not_lt.mpr h.1) h.2 (by decide)
  exact ⟨k, by omega, e⟩
theorem x_8cw {c w : Nat} : (8 : Int32) * nI c + nI w = nI (8 * c + w) := by rw [show (8 : Int32) = nI 8 from rfl, nI_mul, nI_add]
theorem o_fault (H : x_Inv S) : x_Op xs (d + 1) 57 123 [] S := by
  refine x_Op_rd (v := S 8 8) H ?_ ?_
  · refine x_Ci_of (by rw [ml_57]; rfl) (T_57_0 (x_rt_i rfl))
  · refine x_Ci_of (by rw [ml_123]; rfl) (T_123_0 (x_rt_i H.2.2.2.2.2.1.symm))
theorem o_status (H : x_Inv S) : x_Op xs (d + 1) 97 172 [] S := by
  refine x_Op_rd (v := S 8 9) H ?_ ?_
  · refine x_Ci_of (by rw [ml_97]; rfl) (T_97_0 (x_rt_i rfl))
  · refine x_Ci_of (by rw [ml_172]; rfl) (T_172_0 (x_rt_i H.2.2.2.2.2.2.symm))
theorem o_trace {a : Int32} (H : x_Inv S) : x_Op xs (d + 2) 94 170 [.int a] S := by
  obtain ⟨n, h1, h2, h3, h4⟩ := H.2.2.2.2.1
  have e0 := nI_toInt (n := n) (by omega)
  have e1 : (1 : Int32).toInt = 1 := by decide
  have e2 : (nI n - 1).toInt = n - 1 := by rw [x_sub_i (by omega) (by omega), e0, e1]
  by_cases hb : 0 ≤ a ∧ a < nI n
  · obtain ⟨k, hk, rfl⟩ := x_lt_nat (Int32.not_lt.mpr hb.1) hb.2 (by omega)
    refine x_Op_rd (v := S 29 k) H ?_ ?_
    · refine x_Ci_of (by rw [ml_94]; rfl) (T_94_0 ?_)
      rw [if_neg (nI_pos (by omega)), h2, if_neg (nI_ge hk (by omega))]
      exact ⟨x_ib_n (by omega) (by decide), x_rt_i (by rw [nI_clamp (by omega)])⟩
    · refine x_Ci_of (by rw [ml_170]; rfl) (T_170_0 (x_rd c_in ?_))
      rw [h3, x_in0, if_neg (x_b_ne (by rw [decide_eq_true_eq]; refine ⟨hb.1, ?_⟩; rw [Int32.le_iff_toInt_le, e2, nI_toInt (by omega)]; omega))]
      exact ⟨x_ib_n (by omega) (by decide), x_rt_i (by rw [nI_clamp (by omega)]; exact h4 k hk)⟩
  · refine x_Op_rd (v := -1000000) H ?_ ?_
    · refine x_Ci_of (by rw [ml_94]; rfl) (T_94_0 ?_)
      split
      next => exact x_rt_i rfl
      next z1 =>
        rw [h2]
        split
        next => exact x_rt_i rfl
        next z2 => exact absurd ⟨Int32.not_lt.mp z1, Int32.not_le.mp z2⟩ hb
    · refine x_Ci_of (by rw [ml_170]; rfl) (T_170_0 (x_rd c_in ?_))
      rw [h3, x_in0, if_pos (x_b_0.mpr (fun z => hb (by rw [decide_eq_true_eq] at z; refine ⟨z.1, ?_⟩; have z2 := z.2; rw [Int32.le_iff_toInt_le, e2] at z2; rw [Int32.lt_iff_toInt_lt, e0]; omega)))]
      exact x_rt_i rfl
theorem o_holes {a w : Int32} (H : x_Inv S) : x_Op xs (d + 3) 58 124 [.int a, .int w] S := by
  obtain ⟨n, n1, n2, n3, n4⟩ := x_view H
  by_cases hb : 0 ≤ a ∧ a < nI n
  · by_cases hy : 0 ≤ w ∧ w ≤ 7
    · obtain ⟨c, hc, rfl⟩ := x_crd_n n1 hb
      obtain ⟨y, hyy, rfl⟩ := x_way_n hy
      rcases n4 with n4 | ⟨p1, p2, p3, p4⟩
      · omega
      · refine x_Op_rd (v := S 14 (8 * c + y)) H ?_ ?_
        · refine x_Ci_of (by rw [ml_58]; rfl) (T_58_0 (x_rd c_isPlay ?_))
          rw [n2, if_neg (x_b_ne (by rw [Bool.and_eq_true, decide_eq_true_eq, decide_eq_true_eq]; exact ⟨hb, hy⟩))]
          exact x_rd (c_lie (by decide) (by omega) hyy) (x_rt_i rfl)
        · refine x_Ci_of (by rw [ml_124]; rfl) (T_124_0 (x_rd c_isCardM ?_))
          rw [n3, if_neg (x_b_ne (by rw [decide_eq_true_eq, x_crd n1]; exact hb))]
          refine x_rd c_isWayM ?_
          rw [if_neg (x_b_ne (by rw [decide_eq_true_eq]; exact hy)), x_8cw, nI_clamp (by omega)]
          exact ⟨x_ib_n (by omega) (by decide), x_rt_i (x_On_v p4 (by omega)).1.symm⟩
    · refine x_Op_rd (v := -1000001) H ?_ ?_
      · refine x_Ci_of (by rw [ml_58]; rfl) (T_58_0 (x_rd c_isPlay ?_))
        rw [n2, if_pos (x_b_0.mpr (fun z => hy (by rw [Bool.and_eq_true, decide_eq_true_eq, decide_eq_true_eq] at z; exact z.2)))]
        exact x_rt_i rfl
      · refine x_Ci_of (by rw [ml_124]; rfl) (T_124_0 (x_rd c_isCardM ?_))
        rw [n3, if_neg (x_b_ne (by rw [decide_eq_true_eq, x_crd n1]; exact hb))]
        refine x_rd c_isWayM ?_
        rw [if_pos (x_b_0.mpr (fun z => hy (by rw [decide_eq_true_eq] at z; exact z)))]
        exact x_rt_i rfl
  · refine x_Op_rd (v := -1000001) H ?_ ?_
    · refine x_Ci_of (by rw [ml_58]; rfl) (T_58_0 (x_rd c_isPlay ?_))
      rw [n2, if_pos (x_b_0.mpr (fun z => hb (by rw [Bool.and_eq_true, decide_eq_true_eq, decide_eq_true_eq] at z; exact z.1)))]
      exact x_rt_i rfl
    · refine x_Ci_of (by rw [ml_124]; rfl) (T_124_0 (x_rd c_isCardM ?_))
      rw [n3, if_pos (x_b_0.mpr (fun z => hb (by rw [decide_eq_true_eq, x_crd n1] at z; exact z)))]
      exact x_rt_i rfl
theorem x_off {n : Nat} {S : x_M} (h : (S 12 4 = 0 ∧ S 57 0 = 0 ∧ n = 0 ∧ S 15 0 = 0 ∧ S 15 1 = 0 ∧ S 57 30 = 0 ∧ S 57 31 = 0) ∨ (S 12 4 = 1 ∧ S 57 0 = 1 ∧ 1 ≤ n ∧ x_On S n)) (h0 : ¬ (S 12 4 = 0 ∧ S 57 0 = 0)) : S 12 4 = 1 ∧ S 57 0 = 1 ∧ 1 ≤ n ∧ x_On S n := by
  rcases h with h | h
  · exact absurd ⟨h.1, h.2.1⟩ h0
  · exact h
theorem o_worth {a : Int32} (H : x_Inv S) : x_Op xs (d + 3) 61 127 [.int a] S := by
  obtain ⟨n, n1, n2, n3, n4⟩ := x_view H
  rcases n4 with ⟨p1, p2, _⟩ | ⟨p1, p2, p3, p4⟩
  · refine x_Op_rd (v := -1000002) H ?_ ?_
    · refine x_Ci_of (by rw [ml_61]; rfl) (T_61_0 ?_)
      rw [if_pos p1]
      exact x_rt_i rfl
    · refine x_Ci_of (by rw [ml_127]; rfl) (T_127_0 ?_)
      rw [if_pos p2]
      exact x_rt_i rfl
  · by_cases hb : 0 ≤ a ∧ a ≤ 511
    · refine x_Op_rd (v := x_wsum (S 13) a 9) H ?_ ?_
      · refine x_Ci_of (by rw [ml_61]; rfl) (T_61_0 ?_)
        rw [p1, if_neg (by decide)]
        refine x_rd c_arePlaces ?_
        rw [if_neg (x_b_ne (by rw [decide_eq_true_eq]; exact hb))]
        exact x_rd (c_worthOf (by decide)) (x_rt_i rfl)
      · refine x_Ci_of (by rw [ml_127]; rfl) (T_127_0 ?_)
        rw [p2, if_neg (by decide)]
        refine x_rd c_isPlacesM ?_
        rw [if_neg (x_b_ne (by rw [decide_eq_true_eq]; exact hb))]
        exact x_rd c_worthOfM (x_rt_i (x_On_w p4).symm)
    · refine x_Op_rd (v := -1000001) H ?_ ?_
      · refine x_Ci_of (by rw [ml_61]; rfl) (T_61_0 ?_)
        rw [p1, if_neg (by decide)]
        refine x_rd c_arePlaces ?_
        rw [if_pos (x_b_0.mpr (fun z => hb (by rw [decide_eq_true_eq] at z; exact z)))]
        exact x_rt_i rfl
      · refine x_Ci_of (by rw [ml_127]; rfl) (T_127_0 ?_)
        rw [p2, if_neg (by decide)]
        refine x_rd c_isPlacesM ?_
        rw [if_pos (x_b_0.mpr (fun z => hb (by rw [decide_eq_true_eq] at z; exact z)))]
        exact x_rt_i rfl
theorem c_isOver {A : x_Ga} {n : Nat} (hm : x_GM S 0 A) (hw : x_AW n A) (hn : n ≤ 14) : x_Cr xs (d + 1) 138 [.ref 56] S (x_b (decide (x_Al0 A = 0 ∧ x_Al1 A = 0))) := by
  have h2 := x_2n hn
  have w2 := hw.2.1
  have w3 := hw.2.2.1
  obtain ⟨m1, m2, m3, m4, m5, m6, m7, m8⟩ := hm
  refine x_Ci_of (by rw [ml_138]; rfl) (T_138_0 ?_)
  rw [show S 57 30 = nI (x_Al0 A) from m6, show S 57 31 = nI (x_Al1 A) from m7]
  split
  next h =>
    rw [nI_eq0 (by omega)] at h
    split
    next h' =>
      rw [nI_eq0 (by omega)] at h'
      exact x_rt_i (x_b_t (decide_eq_true ⟨h, h'⟩))
    next h' =>
      rw [nI_eq0 (by omega)] at h'
      exact x_rt_i (x_b_f (fun z => h' (of_decide_eq_true z).2))
  next h =>
    rw [nI_eq0 (by omega)] at h
    exact x_rt_i (x_b_f (fun z => h (of_decide_eq_true z).1))
end COUNT
