def x_bgi (o : Option (Int × Nat)) : Int32 := match o with
  | none => -268435456
  | some (b, _) => iI b
def x_bp (o : Option (Int × Nat)) (z : Int32) : Int32 := match o with
  | none => z
  | some (_, q) => nI q
theorem x_lv_b {L T : Nat → Nat} {n f v : Nat} {B : x_Bs} {e : Int} (hT : ∀ k, k < 9 → T k ≤ 99) (he : x_lv L T (x_ld L T n f) B v = some e) : -(891 * ((f + 1 : Nat) : Int)) ≤ e ∧ e ≤ 891 * ((f + 1 : Nat) : Int) := by
  unfold x_lv at he
  by_cases hb : (x_bh B).testBit (v / 8) = true
  · rw [if_pos hb] at he
    have h1 := x_val_b (L := L) (n := n) hT f (x_bnx L v B)
    have h2 := x_wN_9 (P := x_bS B &&& L v) hT
    simp only [Option.some.injEq] at he
    subst he
    split <;> omega
  · rw [if_neg hb] at he
    cases he
theorem nI_dn (k : Nat) : nI (k + 1) + (-1) = nI k := by
  rw [nI_succ, Int32.add_assoc, show (1 : Int32) + (-1) = 0 by decide, Int32.add_zero]
/-- what a search from level k on leaves as it was -/
def x_LF (k : Nat) (S S' : x_M) : Prop := ∀ p j, ¬ ((p = 68 ∨ p = 69) ∧ k < j) → ¬ ((p = 71 ∨ p = 72 ∨ p = 73) ∧ k ≤ j) → ¬ (p = 70 ∧ 2 * k + 2 ≤ j) → ¬ (k = 0 ∧ p = 56 ∧ j = 25) → S' p j = S p j
theorem x_Lv_c {S S' : x_M} {k : Nat} {B : x_Bs} (h : x_LF k S S') (H : x_Lv S k B) : x_Lv S' k B := by
  obtain ⟨h1, h2, h3, h4⟩ := H
  exact ⟨by rw [h 68 k (by omega) (by omega) (by omega) (by omega)]; exact h1, by rw [h 69 k (by omega) (by omega) (by omega) (by omega)]; exact h2, by rw [h 70 _ (by omega) (by omega) (by omega) (by omega)]; exact h3, by rw [h 70 _ (by omega) (by omega) (by omega) (by omega)]; exact h4⟩
section LAYBEST2
variable {xs : List Int32} {d : Nat} {n : Nat} {L T : Nat → Nat}
/-- from a level's head to where its plays are looked at -/
theorem c_lb53 {k f : Nat} {B : x_Bs} {S : x_M} {Q : Option Value → x_M → Prop} {a2 a3 : Value} (hk : k < 5) (hn : n ≤ 14) (hW : x_BW n (f + 1) B) (hL : x_Lv S k B) (h : x_E xs (d + 4) 140 81 [.ref 56, .int (nI k), a2, a3] [] S Q) : x_E xs (d + 4) 140 53 [.ref 56, .int (nI k), a2, a3] [] S Q := by
  have h2n := x_2n hn
  obtain ⟨w1, w2, w3, w4, w5, w6⟩ := hW
  obtain ⟨e68, e69, e70, e71⟩ := hL
  refine T_140_53 ?_
  rw [if_neg (nI_pos (by omega)), x_2k, show nI (2 * k) + 1 = nI (2 * k + 1) from nI_add _ 1, nI_clamp (n := 2 * k) (by omega), nI_clamp (n := 2 * k + 1) (by omega), e70, e71]
  refine ⟨x_ib_n (by omega) (by decide), ?_⟩
  by_cases z0 : x_b0 B = 0
  · rw [if_pos ((nI_eq0 (by omega)).mpr z0)]
    refine ⟨x_ib_n (by omega) (by decide), ?_⟩
    have z1 : ¬ x_b1 B = 0 := fun z => by
      rw [z0, z] at w5
      have : x_pop 0 14 = 0 := by decide
      omega
    rw [if_neg (fun z => z1 ((nI_eq0 (by omega)).mp z))]
    exact h
  · rw [if_neg (fun z => z0 ((nI_eq0 (by omega)).mp z))]
    exact h
set_option maxHeartbeats 2000000 in
theorem c_lb (hB : x_VB n L T) : ∀ f k (B : x_Bs) (S : x_M) (Q : Option Value → x_M → Prop) (a2 a3 : Value), k + f ≤ 4 → x_BW n f B → x_VM S n L T → x_Lv S k B → S 71 k = 0 → S 73 k = x_li B →
    (∀ (S' : x_M) (a : Value), x_LF k S S' → S' 73 k = iI (x_val (x_ld L T n f B)) → (k = 0 → S' 56 25 = x_bp (x_ld L T n f B) (S 56 25)) → x_E xs (d + 4) 140 123 [.ref 56, .int (nI k), .int 1, a] [] S' Q) → x_E xs (d + 4) 140 53 [.ref 56, .int (nI k), a2, a3] [] S Q := by
  have hn := hB.1
  have hT := hB.2.1
  have h2n := x_2n hn
  intro f
  induction f with
  | zero =>
    intro k B S Q a2 a3 hk hW hV hL h71 h73 K
    obtain ⟨w1, w2, w3, w4, w5, w6⟩ := hW
    have z0 : x_b0 B = 0 := (x_pop_0 (by omega)).mp (by omega)
    have z1 : x_b1 B = 0 := (x_pop_0 (by omega)).mp (by omega)
    have hL' := hL
    obtain ⟨e68, e69, e70, e71⟩ := hL
    refine T_140_53 ?_
    rw [if_neg (nI_pos (by omega)), x_2k, show nI (2 * k) + 1 = nI (2 * k + 1) from nI_add _ 1, nI_clamp (n := 2 * k) (by omega), nI_clamp (n := 2 * k + 1) (by omega), e70, e71, if_pos ((nI_eq0 (by omega)).mpr z0), if_pos ((nI_eq0 (by omega)).mpr z1)]
    refine ⟨x_ib_n (by omega) (by decide), x_ib_n (by omega) (by decide), ?_⟩
    refine K S _ (fun _ _ _ _ _ _ => rfl) ?_ (fun _ => rfl)
    rw [h73]
    unfold x_li
    rw [if_pos ⟨z0, z1⟩]
    rfl
  | succ f ih =>
    intro k B S Q a2 a3 hk hW hV hL h71 h73 K
    generalize hVd : x_lv L T (x_ld L T n f) B = V
    have hld : x_ld L T n (f + 1) B = x_opt V (8 * n) := by rw [← hVd]; rfl
    have hVb : ∀ v e, V v = some e → -4455 ≤ e ∧ e ≤ 4455 := by
      intro v e he
      rw [← hVd] at he
      have := x_lv_b hT he
      omega
    have hk5 : k < 5 := by omega
    have ibk : x_ib (nI k) 6 := x_ib_n (by omega) (by decide)
    have loop : ∀ i v (U : x_M) (a2 a3 : Value), v + i = 8 * n → x_LF k S U → U 71 k = nI v → U 73 k = x_bgi (x_opt V v) → (k = 0 → U 56 25 = x_bp (x_opt V v) (S 56 25)) → x_E xs (d + 4) 140 53 [.ref 56, .int (nI k), a2, a3] [] U Q := by
      intro i
      induction i with
      | zero =>
        intro v U a2 a3 hv hF g71 g73 g56
        refine c_lb53 hk5 hn hW (x_Lv_c hF hL) (T_140_81 ?_)
        refine ⟨ibk, ?_⟩
        have hMU : x_VM U n L T := x_VM_c (fun p j hp => hF p j (by omega) (by omega) (by omega) (by omega)) hV
        rw [nI_clamp (n := k) (by omega), g71, hMU.1, show (8 : Int32) * nI n = nI (8 * n) from nI_mul 8 n, show v = 8 * n by omega, if_pos rfl]
        have hv8 : v = 8 * n := by omega
        rw [hv8] at g73 g56
        obtain ⟨b, q, hbq, _⟩ := x_ld_some (L := L) (T := T) hn hW
        refine K U _ hF ?_ ?_
        · rw [g73, hbq, ← hld, hbq]
          rfl
        · intro hk0
          rw [g56 hk0, hld]
      | succ i ihi =>
        intro v U a2 a3 hv hF g71 g73 g56
        have hLU := x_Lv_c hF hL
        refine c_lb53 hk5 hn hW hLU (T_140_81 ?_)
        refine ⟨ibk, ?_⟩
        have hMU : x_VM U n L T := x_VM_c (fun p j hp => hF p j (by omega) (by omega) (by omega) (by omega)) hV
        rw [nI_clamp (n := k) (by omega), g71, hMU.1, show (8 : Int32) * nI n = nI (8 * n) from nI_mul 8 n, if_neg (fun z => by have := (nI_eq (by omega) (by omega)).mp z; omega)]
        by_cases hb : (x_bh B).testBit (v / 8) = true
        · have hW2 := x_BW_nx (L := L) hn hW hb
          refine ⟨_, c_goDown hk5 hMU hB hW hLU g71 (by omega) hb, ?_⟩
          rintro r U1 ⟨rfl, m1, m2, m3, m4, m5⟩
          rw [if_neg (by decide), ← nI_succ]
          refine ih (k + 1) (x_bnx L v B) U1 Q _ _ (by omega) hW2 (x_VM_c (fun p j hp => m5 p j (by omega) (by omega) (by omega)) hMU) m1 m2 m3 ?_
          intro S' a hF1 hv73 _
          have hLS := x_Lv_c hF1 m1
          refine T_140_123 ?_
          rw [if_neg (by decide), nI_dn, if_neg (nI_pos (by omega)), ← nI_succ, nI_clamp (n := k) (by omega), nI_clamp (n := k + 1) (by omega)]
          have ibk1 : x_ib (nI (k + 1)) 6 := x_ib_n (by omega) (by decide)
          refine ⟨ibk, ibk1, ibk, ?_⟩
          have s69 : S' 69 k = nI (x_bH B) := by rw [hF1 69 k (by omega) (by omega) (by omega) (by omega), m5 69 k (by omega) (by omega) (by omega)]; exact hLU.2.1
          have s72 : S' 72 k = nI (x_wN T (x_bS B &&& L v) 9) := by rw [hF1 72 k (by omega) (by omega) (by omega) (by omega)]; exact m4
          have s71 : S' 71 k = nI v := by rw [hF1 71 k (by omega) (by omega) (by omega) (by omega), m5 71 k (by omega) (by omega) (by omega)]; exact g71
          have s73 : S' 73 k = x_bgi (x_opt V v) := by rw [hF1 73 k (by omega) (by omega) (by omega) (by omega), m5 73 k (by omega) (by omega) (by omega)]; exact g73
          have s56 : S' 56 25 = U 56 25 := by rw [hF1 56 25 (by omega) (by omega) (by omega) (by omega), m5 56 25 (by omega) (by omega) (by omega)]
          have hF2 : x_LF k S S' := fun p j z1 z2 z3 z4 => by rw [hF1 p j (by omega) (by omega) (by omega) (by omega), m5 p j (by omega) (by omega) (by omega)]; exact hF p j z1 z2 z3 z4
          rw [hLS.2.1, s69, s72, hv73]
          have hh2 := hW2.2.1
          have hh1 := hW.2.1
          have keyh : nI (x_bH (x_bnx L v B)) = nI (x_bH B) ↔ x_bH (x_bnx L v B) = x_bH B := nI_eq (by omega) (by omega)
          -- from the lead on
          have after : ∀ (e : Int) (s1 : Int32), V v = some e → nI (x_wN T (x_bS B &&& L v) 9) + s1 = iI e → x_E xs (d + 4) 140 190 [.ref 56, .int (nI k), .int 1, a] [.int s1, .int (nI (x_wN T (x_bS B &&& L v) 9))] S' Q := by
            intro e s1 he hs
            have heb := hVb v e he
            -- what is written
            have last : ∀ (z : Int32), (k = 0 → z = x_bp (x_opt V (v + 1)) (S 56 25)) → (¬ k = 0 → z = U 56 25) → x_E xs (d + 4) 140 220 [.ref 56, .int (nI k), .int 1, .int (iI e)] [.int z, .ref 56] S' Q := by
              intro z hz0 hz1
              refine T_140_220 ?_
              rw [nI_clamp (n := k) (by omega)]
              intro S1 hS1
              refine ⟨ibk, ?_⟩
              have t73 : S1 73 k = x_bgi (x_opt V v) := by rw [hS1, x_up_ne (by omega)]; exact s73
              have t71 : S1 71 k = nI v := by rw [hS1, x_up_ne (by omega)]; exact s71
              have fin : ∀ (U2 : x_M) (a3 : Value), (∀ p j, ¬ (p = 56 ∧ j = 25) → ¬ ((p = 71 ∨ p = 73) ∧ j = k) → U2 p j = S' p j) → U2 56 25 = z → U2 71 k = nI (v + 1) → U2 73 k = x_bgi (x_opt V (v + 1)) → x_E xs (d + 4) 140 53 [.ref 56, .int (nI k), .int 1, a3] [] U2 Q := by
                intro U2 a3 u1 u2 u3 u4
                refine ihi (v + 1) U2 _ _ (by omega) ?_ u3 u4 ?_
                · intro p j z1 z2 z3 z4
                  by_cases hp : p = 56 ∧ j = 25
                  · obtain ⟨rfl, rfl⟩ := hp
                    rw [u2, hz1 (by omega)]
                    exact hF 56 25 (by omega) (by omega) (by omega) z4
                  · rw [u1 p j hp (by omega)]
                    exact hF2 p j z1 z2 z3 z4
                · intro hk0
                  rw [u2]
                  exact hz0 hk0
              cases ho : x_opt V v with
              | none =>
                have ho1 := x_opt_0 he ho
                rw [ho] at t73
                have t73 : S1 73 k = iI (-268435456) := t73
                rw [if_neg (by
                  rw [t73, Int32.le_iff_toInt_le, iI_toInt (by omega) (by omega)]
                  have : (iI (-268435456)).toInt = -268435456 := by decide
                  omega)]
                refine ⟨ibk, fun S4 hS4 => ⟨ibk, ibk, fun S5 hS5 => ?_⟩⟩
                refine fin S5 _ (fun p j z1 z2 => by rw [hS5, x_up_ne (by omega), hS4, x_up_ne (by omega), hS1, x_up_ne (by omega)]) ?_ ?_ ?_
                · rw [hS5, x_up_ne (by omega), hS4, x_up_ne (by omega), hS1]; exact x_up_at _ _ _ _
                · rw [hS5, x_up_at, hS4, x_up_ne (by omega), t71]; exact (nI_succ v).symm
                · rw [hS5, x_up_ne (by omega), hS4, x_up_at, ho1]
                  rfl
              | some p =>
                obtain ⟨b, q⟩ := p
                have hob := x_opt_b hVb _ _ _ ho
                have ho1 := x_opt_s he ho
                rw [ho] at t73
                have t73 : S1 73 k = iI b := t73
                by_cases hle : b < e
                · rw [if_pos hle] at ho1
                  rw [if_neg (by rw [t73, iI_le (by omega) (by omega) (by omega) (by omega)]; omega)]
                  refine ⟨ibk, fun S4 hS4 => ⟨ibk, ibk, fun S5 hS5 => ?_⟩⟩
                  refine fin S5 _ (fun p j z1 z2 => by rw [hS5, x_up_ne (by omega), hS4, x_up_ne (by omega), hS1, x_up_ne (by omega)]) ?_ ?_ ?_
                  · rw [hS5, x_up_ne (by omega), hS4, x_up_ne (by omega), hS1]; exact x_up_at _ _ _ _
                  · rw [hS5, x_up_at, hS4, x_up_ne (by omega), t71]; exact (nI_succ v).symm
                  · rw [hS5, x_up_ne (by omega), hS4, x_up_at, ho1]
                    rfl
                · rw [if_neg hle] at ho1
                  rw [if_pos (by rw [t73, iI_le (by omega) (by omega) (by omega) (by omega)]; omega)]
                  refine ⟨ibk, ibk, fun S2 hS2 => ⟨ibk, ibk, fun S3 hS3 => ?_⟩⟩
                  refine fin S3 _ (fun p j z1 z2 => by rw [hS3, x_up_ne (by omega), hS2, x_up_ne (by omega), hS1, x_up_ne (by omega)]) ?_ ?_ ?_
                  · rw [hS3, x_up_ne (by omega), hS2, x_up_ne (by omega), hS1]; exact x_up_at _ _ _ _
                  · rw [hS3, x_up_at, hS2, x_up_ne (by omega), t71]; exact (nI_succ v).symm
                  · rw [hS3, x_up_ne (by omega), hS2, x_up_at, t73, ho1]
                    rfl
            refine T_140_190 ?_
            rw [hs]
            by_cases hk0 : k = 0
            · rw [if_pos ((nI_eq0 (by omega)).mpr hk0)]
              have s73' := s73
              have s71' := s71
              rw [hk0] at s73' s71'
              rw [s73', s71', s56, g56 hk0]
              cases ho : x_opt V v with
              | none =>
                have ho1 := x_opt_0 he ho
                rw [if_neg (by
                  show ¬ iI e ≤ iI (-268435456)
                  rw [Int32.le_iff_toInt_le, iI_toInt (by omega) (by omega)]
                  have : (iI (-268435456)).toInt = -268435456 := by decide
                  omega)]
                exact last _ (fun _ => by rw [ho1]; rfl) (fun z => absurd hk0 z)
              | some p =>
                obtain ⟨b, q⟩ := p
                have hob := x_opt_b hVb _ _ _ ho
                have ho1 := x_opt_s he ho
                by_cases hle : b < e
                · rw [if_pos hle] at ho1
                  rw [if_neg (by show ¬ iI e ≤ iI b; rw [iI_le (by omega) (by omega) (by omega) (by omega)]; omega)]
                  exact last _ (fun _ => by rw [ho1]; rfl) (fun z => absurd hk0 z)
                · rw [if_neg hle] at ho1
                  rw [if_pos (by show iI e ≤ iI b; rw [iI_le (by omega) (by omega) (by omega) (by omega)]; omega)]
                  exact last _ (fun _ => by rw [ho1]) (fun z => absurd hk0 z)
            · rw [if_neg (fun z => hk0 ((nI_eq0 (by omega)).mp z))]
              exact last _ (fun z => absurd z hk0) (fun _ => s56)
          have hVv : V v = some ((x_wN T (x_bS B &&& L v) 9 : Int) + (if x_bH (x_bnx L v B) = x_bH B then x_val (x_ld L T n f (x_bnx L v B)) else -(x_val (x_ld L T n f (x_bnx L v B))))) := by
            rw [← hVd]
            unfold x_lv
            rw [if_pos hb]
          by_cases hhe : x_bH (x_bnx L v B) = x_bH B
          · rw [if_pos (keyh.mpr hhe)]
            rw [if_pos hhe] at hVv
            exact ⟨ibk1, after _ _ hVv (by rw [iI_n, iI_add])⟩
          · rw [if_neg (fun z => hhe (keyh.mp z))]
            rw [if_neg hhe] at hVv
            exact ⟨ibk1, after _ _ hVv (by rw [iI_n, iI_neg, iI_add])⟩
        · have hVv : V v = none := by
            rw [← hVd]
            unfold x_lv
            rw [if_neg hb]
          refine x_rd (c_goNot hk5 hB hW hLU g71 (by omega) hb) ?_
          rw [if_pos rfl]
          refine T_140_123 ?_
          rw [if_pos rfl, nI_clamp (n := k) (by omega)]
          refine ⟨ibk, ibk, ?_⟩
          intro S1 hS1
          refine ihi (v + 1) S1 _ _ (by omega) (fun p j z1 z2 z3 z4 => by rw [hS1, x_up_ne (by omega)]; exact hF p j z1 z2 z3 z4) ?_ ?_ ?_
          · rw [hS1, x_up_at, g71]; exact (nI_succ v).symm
          · rw [hS1, x_up_ne (by omega), x_opt_n hVv]; exact g73
          · intro hk0
            rw [hS1, x_up_ne (by omega), x_opt_n hVv]
            exact g56 hk0
    refine loop (8 * n) 0 S a2 a3 (by omega) (fun _ _ _ _ _ _ => rfl) h71 ?_ (fun _ => rfl)
    rw [h73]
    unfold x_li
    rw [if_neg (fun z => by
      have w5 := hW.2.2.2.2.1
      rw [z.1, z.2] at w5
      have : x_pop 0 14 = 0 := by decide
      omega)]
    rfl
/-- the reference's search, from the game as it is -/
theorem c_layBest {S : x_M} {f sh h l0 l1 : Nat} (hB : x_VB n L T) (hV : x_VM S n L T) (hf : f ≤ 4) (hW : x_BW n f (sh, h, l0, l1)) (h25 : S 57 25 = nI sh) (h27 : S 57 27 = nI h) (h30 : S 57 30 = nI l0) (h31 : S 57 31 = nI l1) : x_Cv xs (d + 4) 140 [.ref 56] S (fun S' => S' 73 0 = iI (x_val (x_ld L T n f (sh, h, l0, l1))) ∧ S' 56 25 = x_bp (x_ld L T n f (sh, h, l0, l1)) (-1000000) ∧ ∀ p j, ¬ (68 ≤ p ∧ p ≤ 73) → ¬ (p = 56 ∧ j = 25) → S' p j = S p j) := by
  have h2n := x_2n hB.1
  refine x_Cv_of (by rw [ml_140]; rfl) (T_140_0 ?_)
  rw [h30]
  intro S1 hS1
  rw [show S1 57 31 = nI l1 by rw [hS1, x_up_ne (by omega)]; exact h31]
  intro S2 hS2
  rw [show S2 57 25 = nI sh by rw [hS2, x_up_ne (by omega), hS1, x_up_ne (by omega)]; exact h25, show S2 57 27 = nI h by rw [hS2, x_up_ne (by omega), hS1, x_up_ne (by omega)]; exact h27]
  have b0 : l0 < 2 ^ n := hW.2.2.1
  have b1 : l1 < 2 ^ n := hW.2.2.2.1
  have f0 : S2 70 (2 * 0) = nI l0 := by rw [hS2, x_up_ne (by omega), hS1]; exact x_up_at _ _ _ _
  have f1 : S2 70 (2 * 0 + 1) = nI l1 := by rw [hS2]; exact x_up_at _ _ _ _
  refine ⟨_, c_openLevel (k := 0) (by omega) f0 f1 (by omega) (by omega), ?_⟩
  rintro S3 ⟨q1, q2, q3, q4⟩
  intro S4 hS4
  have hF4 : ∀ p j, ¬ (68 ≤ p ∧ p ≤ 73) → ¬ (p = 56 ∧ j = 25) → S4 p j = S p j := fun p j z1 z2 => by rw [hS4, x_up_ne (by omega), q4 p j (by omega), hS2, x_up_ne (by omega), hS1, x_up_ne (by omega)]
  have q1' : x_Lv S4 0 (sh, h, l0, l1) := by
    obtain ⟨r1, r2, r3, r4⟩ := q1
    exact ⟨by rw [hS4, x_up_ne (by omega)]; exact r1, by rw [hS4, x_up_ne (by omega)]; exact r2, by rw [hS4, x_up_ne (by omega)]; exact r3, by rw [hS4, x_up_ne (by omega)]; exact r4⟩
  refine c_lb hB f 0 (sh, h, l0, l1) S4 _ _ _ (by omega) hW (x_VM_c (fun p j hp => hF4 p j (by omega) (by omega)) hV) q1' (by rw [hS4, x_up_ne (by omega)]; exact q2) (by rw [hS4, x_up_ne (by omega)]; exact q3) ?_
  intro S' a hF hv hp
  refine T_140_123 ?_
  rw [if_neg (by decide), if_pos (show nI 0 + (-1) < 0 by decide)]
  refine T_140_53 ?_
  rw [if_pos (show nI 0 + (-1) < 0 by decide)]
  refine ⟨rfl, hv, ?_, fun p j z1 z2 => by rw [hF p j (by omega) (by omega) (by omega) (by omega)]; exact hF4 p j z1 z2⟩
  rw [hp rfl, hS4, x_up_at]
end LAYBEST2
