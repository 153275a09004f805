section OFEWEST
variable {xs : List Int32} {d : Nat} {S : x_M} {n : Nat} {L T : Nat → Nat}
theorem x_511 {m : Nat} (h : m < 512) : 511 &&& m = m := by
  rw [Nat.and_comm]
  exact Nat.and_two_pow_sub_one_of_lt_two_pow (n := 9) h
/-- what the reference's search leaves -/
def x_FQ (S : x_M) (o : Option (List Nat)) (r : Int32) (S' : x_M) : Prop := (∀ q j, ¬ q = 74 → S' q j = S q j) ∧ match o with
  | none => r = -1000000
  | some l => r = nI l.length ∧ ∀ j, j < l.length → S' 74 j = nI (l.getD j 0)
theorem c_least8 {a : Nat} (ha : a < 2 ^ 20) : x_Cr xs (d + 1) 147 [.int (nI a)] S (nI (8 * (a / 8 + 1))) := by
  refine x_Ci_of (by rw [ml_147]; rfl) (T_147_0 (x_rt_i ?_))
  rw [show nI a / 8 = nI (a / 8) from nI_div (b := 8) (by omega) (by omega), ← nI_succ, show (8 : Int32) * nI (a / 8 + 1) = nI (8 * (a / 8 + 1)) from nI_mul 8 _]
set_option maxHeartbeats 2000000 in
theorem c_layHeap {p : Nat} (hV : x_VM S n L T) (hB : x_VB n L T) (hp : p < 512) : x_Ci xs (d + 2) 146 [.ref 56, .int (nI p)] S (fun r S' => x_FQ S (x_fw L n p) r S') := by
  have hn := hB.1
  refine x_Ci_of (by rw [ml_146]; rfl) (T_146_0 ?_)
  have key : ∀ m, m < 512 → (nI m = nI p ↔ m = p) := fun m hm => nI_eq (by omega) (by omega)
  have e0 : x_fu L n p 0 511 0 = if 511 = p then some [] else none := rfl
  by_cases h511 : 511 = p
  · rw [if_pos (show nI p = 511 by rw [← h511]; rfl)]
    refine ⟨_, rfl, fun q j _ => rfl, ?_⟩
    unfold x_fw
    rw [e0, if_pos h511]
    exact ⟨rfl, fun j hj => absurd hj (Nat.not_lt_zero j)⟩
  rw [if_neg (fun z => h511 ((key 511 (by omega)).mp z.symm))]
  rw [if_neg h511] at e0
  rw [hV.1, show (8 : Int32) * nI n = nI (8 * n) from nI_mul 8 n]
  have e511 : ∀ v, v < 8 * n → 511 &&& L v = L v := fun v hv => x_511 (hB.2.2 v hv)
  have hand : ∀ a b, a < 512 → a &&& b < 512 := fun a b h => Nat.lt_of_le_of_lt Nat.and_le_left h
  -- three cards
  have l3 : x_fu L n p 1 511 0 = none → x_fu L n p 2 511 0 = none → ∀ i a, a + i = 8 * n → x_first (fun v => x_cons v (x_fu L n p 2 (511 &&& L v) (v / 8 + 1))) i a = x_fu L n p 3 511 0 → ∀ a4 a5 a6 : Value, x_E xs (d + 2) 146 119 [.ref 56, .int (nI p), .int (nI (8 * n)), .int (nI a), a4, a5, a6] [] S (fun r S' => ∃ v : Int32, r = some (.int v) ∧ x_FQ S (x_fw L n p) v S') := by
    intro e1 e2 i
    have efw : x_fw L n p = x_fu L n p 3 511 0 := by
      unfold x_fw
      rw [e0, e1, e2]
    induction i with
    | zero =>
      intro a ha hx a4 a5 a6
      have hx : none = x_fu L n p 3 511 0 := hx
      refine T_146_119 ?_
      rw [if_pos (nI_le (by omega) (by omega))]
      refine ⟨_, rfl, fun q j _ => rfl, ?_⟩
      rw [efw, ← hx]
    | succ i iha =>
      intro a ha hx a4 a5 a6
      refine T_146_119 ?_
      rw [if_neg (nI_ge (by omega) (by omega))]
      refine x_rd (c_least8 (by omega)) ?_
      have ea := e511 a (by omega)
      have l2 : ∀ j b, b + j = 8 * n → x_first (fun v => x_cons v (x_fu L n p 1 (L a &&& L v) (v / 8 + 1))) j b = x_fu L n p 2 (L a) (a / 8 + 1) → ∀ a5 a6 : Value, x_E xs (d + 2) 146 130 [.ref 56, .int (nI p), .int (nI (8 * n)), .int (nI a), .int (nI b), a5, a6] [] S (fun r S' => ∃ v : Int32, r = some (.int v) ∧ x_FQ S (x_fw L n p) v S') := by
        intro j
        induction j with
        | zero =>
          intro b hb hy a5 a6
          have hy : none = x_fu L n p 2 (L a) (a / 8 + 1) := hy
          refine T_146_130 ?_
          rw [if_pos (nI_le (by omega) (by omega)), ← nI_succ]
          rw [x_first_none (by show x_cons a (x_fu L n p 2 (511 &&& L a) (a / 8 + 1)) = none; rw [ea, ← hy]; rfl)] at hx
          exact iha (a + 1) (by omega) hx _ _ _
        | succ j ihb =>
          intro b hb hy a5 a6
          refine T_146_130 ?_
          rw [if_neg (nI_ge (by omega) (by omega)), nI_clamp (n := a) (by omega), nI_clamp (n := b) (by omega), hV.2.2 a (by omega), hV.2.2 b (by omega), nI_and]
          refine ⟨x_ib_n (by omega) (by decide), x_ib_n (by omega) (by decide), ?_⟩
          refine x_rd (c_least8 (by omega)) ?_
          have hab := hand (L a) (L b) (hB.2.2 a (by omega))
          have l1 : ∀ k c, c + k = 8 * n → x_first (fun v => x_cons v (x_fu L n p 0 (L a &&& L b &&& L v) (v / 8 + 1))) k c = x_fu L n p 1 (L a &&& L b) (b / 8 + 1) → x_E xs (d + 2) 146 159 [.ref 56, .int (nI p), .int (nI (8 * n)), .int (nI a), .int (nI b), .int (nI (L a &&& L b)), .int (nI c)] [] S (fun r S' => ∃ v : Int32, r = some (.int v) ∧ x_FQ S (x_fw L n p) v S') := by
            intro k
            induction k with
            | zero =>
              intro c hc hz
              have hz : none = x_fu L n p 1 (L a &&& L b) (b / 8 + 1) := hz
              refine T_146_159 ?_
              rw [if_pos (nI_le (by omega) (by omega)), ← nI_succ]
              rw [x_first_none (by show x_cons b _ = none; rw [← hz]; rfl)] at hy
              exact ihb (b + 1) (by omega) hy _ _
            | succ k ihc =>
              intro c hc hz
              refine T_146_159 ?_
              rw [if_neg (nI_ge (by omega) (by omega)), nI_and]
              by_cases hs : L a &&& L b &&& p = p
              · rw [if_pos ((key _ (hand _ _ hab)).mpr hs), nI_clamp (n := c) (by omega), hV.2.2 c (by omega), nI_and]
                refine ⟨x_ib_n (by omega) (by decide), ?_⟩
                by_cases hf : L a &&& L b &&& L c = p
                · rw [if_pos ((key _ (hand _ _ hab)).mpr hf)]
                  intro S1 hS1 S2 hS2 S3 hS3
                  rw [x_first_some (r := [c]) (by show x_cons c (if L a &&& L b &&& L c = p then some [] else none) = _; rw [if_pos hf]; rfl)] at hz
                  rw [x_first_some (r := [b, c]) (by show x_cons b _ = _; rw [← hz]; rfl)] at hy
                  rw [x_first_some (r := [a, b, c]) (by show x_cons a (x_fu L n p 2 (511 &&& L a) (a / 8 + 1)) = _; rw [ea, ← hy]; rfl)] at hx
                  refine ⟨_, rfl, fun q j hq => by rw [hS3, x_up_ne (by omega), hS2, x_up_ne (by omega), hS1, x_up_ne (by omega)], ?_⟩
                  rw [efw, ← hx]
                  refine ⟨rfl, fun j hj => ?_⟩
                  have hj : j < 3 := hj
                  rcases (by omega : j = 0 ∨ j = 1 ∨ j = 2) with rfl | rfl | rfl
                  · rw [hS3, x_up_ne (by omega), hS2, x_up_ne (by omega), hS1]; exact x_up_at _ _ _ _
                  · rw [hS3, x_up_ne (by omega), hS2]; exact x_up_at _ _ _ _
                  · rw [hS3]; exact x_up_at _ _ _ _
                · rw [if_neg (fun z => hf ((key _ (hand _ _ hab)).mp z)), ← nI_succ]
                  rw [x_first_none (by show x_cons c (if L a &&& L b &&& L c = p then some [] else none) = _; rw [if_neg hf]; rfl)] at hz
                  exact ihc (c + 1) (by omega) hz
              · rw [if_neg (fun z => hs ((key _ (hand _ _ hab)).mp z)), ← nI_succ]
                have hno : x_fu L n p 1 (L a &&& L b) (b / 8 + 1) = none := by
                  cases hq : x_fu L n p 1 (L a &&& L b) (b / 8 + 1) with
                  | none => rfl
                  | some l => exact absurd (x_fu_sub _ _ _ _ hq).1 hs
                rw [x_first_none (by show x_cons b _ = none; rw [hno]; rfl)] at hy
                exact ihb (b + 1) (by omega) hy _ _
          exact l1 (8 * n - 8 * (b / 8 + 1)) (8 * (b / 8 + 1)) (by omega) rfl
      exact l2 (8 * n - 8 * (a / 8 + 1)) (8 * (a / 8 + 1)) (by omega) rfl _ _
  -- two cards
  have l2 : x_fu L n p 1 511 0 = none → ∀ i a, a + i = 8 * n → x_first (fun v => x_cons v (x_fu L n p 1 (511 &&& L v) (v / 8 + 1))) i a = x_fu L n p 2 511 0 → ∀ a4 : Value, x_E xs (d + 2) 146 53 [.ref 56, .int (nI p), .int (nI (8 * n)), .int (nI a), a4, .null, .null] [] S (fun r S' => ∃ v : Int32, r = some (.int v) ∧ x_FQ S (x_fw L n p) v S') := by
    intro e1 i
    induction i with
    | zero =>
      intro a ha hx a4
      have hx : none = x_fu L n p 2 511 0 := hx
      refine T_146_53 ?_
      rw [if_pos (nI_le (by omega) (by omega))]
      exact l3 e1 hx.symm (8 * n) 0 (by omega) rfl _ _ _
    | succ i iha =>
      intro a ha hx a4
      refine T_146_53 ?_
      rw [if_neg (nI_ge (by omega) (by omega))]
      refine x_rd (c_least8 (by omega)) ?_
      have ea := e511 a (by omega)
      have l1 : ∀ j b, b + j = 8 * n → x_first (fun v => x_cons v (x_fu L n p 0 (L a &&& L v) (v / 8 + 1))) j b = x_fu L n p 1 (L a) (a / 8 + 1) → x_E xs (d + 2) 146 64 [.ref 56, .int (nI p), .int (nI (8 * n)), .int (nI a), .int (nI b), .null, .null] [] S (fun r S' => ∃ v : Int32, r = some (.int v) ∧ x_FQ S (x_fw L n p) v S') := by
        intro j
        induction j with
        | zero =>
          intro b hb hy
          have hy : none = x_fu L n p 1 (L a) (a / 8 + 1) := hy
          refine T_146_64 ?_
          rw [if_pos (nI_le (by omega) (by omega)), ← nI_succ]
          rw [x_first_none (by show x_cons a (x_fu L n p 1 (511 &&& L a) (a / 8 + 1)) = none; rw [ea, ← hy]; rfl)] at hx
          exact iha (a + 1) (by omega) hx _
        | succ j ihb =>
          intro b hb hy
          refine T_146_64 ?_
          rw [if_neg (nI_ge (by omega) (by omega)), nI_clamp (n := a) (by omega), nI_clamp (n := b) (by omega), hV.2.2 a (by omega), hV.2.2 b (by omega), nI_and]
          refine ⟨x_ib_n (by omega) (by decide), x_ib_n (by omega) (by decide), ?_⟩
          have hab := hand (L a) (L b) (hB.2.2 a (by omega))
          by_cases hf : L a &&& L b = p
          · rw [if_pos ((key _ hab).mpr hf)]
            intro S1 hS1 S2 hS2
            rw [x_first_some (r := [b]) (by show x_cons b (if L a &&& L b = p then some [] else none) = _; rw [if_pos hf]; rfl)] at hy
            rw [x_first_some (r := [a, b]) (by show x_cons a (x_fu L n p 1 (511 &&& L a) (a / 8 + 1)) = _; rw [ea, ← hy]; rfl)] at hx
            refine ⟨_, rfl, fun q j hq => by rw [hS2, x_up_ne (by omega), hS1, x_up_ne (by omega)], ?_⟩
            unfold x_fw
            rw [e0, e1, ← hx]
            refine ⟨rfl, fun j hj => ?_⟩
            have hj : j < 2 := hj
            rcases (by omega : j = 0 ∨ j = 1) with rfl | rfl
            · rw [hS2, x_up_ne (by omega), hS1]; exact x_up_at _ _ _ _
            · rw [hS2]; exact x_up_at _ _ _ _
          · rw [if_neg (fun z => hf ((key _ hab).mp z)), ← nI_succ]
            rw [x_first_none (by show x_cons b (if L a &&& L b = p then some [] else none) = _; rw [if_neg hf]; rfl)] at hy
            exact ihb (b + 1) (by omega) hy
      exact l1 (8 * n - 8 * (a / 8 + 1)) (8 * (a / 8 + 1)) (by omega) rfl
  -- one card
  have l1 : ∀ i a, a + i = 8 * n → x_first (fun v => x_cons v (x_fu L n p 0 (511 &&& L v) (v / 8 + 1))) i a = x_fu L n p 1 511 0 → x_E xs (d + 2) 146 21 [.ref 56, .int (nI p), .int (nI (8 * n)), .int (nI a), .null, .null, .null] [] S (fun r S' => ∃ v : Int32, r = some (.int v) ∧ x_FQ S (x_fw L n p) v S') := by
    intro i
    induction i with
    | zero =>
      intro a ha hx
      have hx : none = x_fu L n p 1 511 0 := hx
      refine T_146_21 ?_
      rw [if_pos (nI_le (by omega) (by omega))]
      exact l2 hx.symm (8 * n) 0 (by omega) rfl _
    | succ i iha =>
      intro a ha hx
      refine T_146_21 ?_
      rw [if_neg (nI_ge (by omega) (by omega)), nI_clamp (n := a) (by omega), hV.2.2 a (by omega)]
      refine ⟨x_ib_n (by omega) (by decide), ?_⟩
      have ea := e511 a (by omega)
      by_cases hf : L a = p
      · rw [if_pos (by rw [hf])]
        intro S1 hS1
        rw [x_first_some (r := [a]) (by show x_cons a (if 511 &&& L a = p then some [] else none) = _; rw [ea, if_pos hf]; rfl)] at hx
        refine ⟨_, rfl, fun q j hq => by rw [hS1, x_up_ne (by omega)], ?_⟩
        unfold x_fw
        rw [e0, ← hx]
        refine ⟨rfl, fun j hj => ?_⟩
        have hj : j < 1 := hj
        rw [show j = 0 by omega, hS1]
        exact x_up_at _ _ _ _
      · rw [if_neg (fun z => hf ((key _ (hB.2.2 a (by omega))).mp z)), ← nI_succ]
        rw [x_first_none (by show x_cons a (if 511 &&& L a = p then some [] else none) = _; rw [ea, if_neg hf]; rfl)] at hx
        exact iha (a + 1) (by omega) hx
  exact l1 (8 * n) 0 (by omega) rfl
theorem x_m1 {a : Int32} (h : -1 ≤ a) (h2 : ¬ a = -1) : ¬ a < 0 := by
  intro z
  apply h2
  apply Int32.toInt_inj.mp
  rw [Int32.le_iff_toInt_le] at h
  rw [x_lt0] at z
  have e1 : (-1 : Int32).toInt = -1 := by decide
  rw [e1] at h ⊢
  omega
theorem c_fewestM {p : Nat} {a : Int32} (h0 : S 57 0 = 1) (hV : x_VM S n L T) (hB : x_VB n L T) (hp : p < 512) (ha : -1 ≤ a) : x_Ci xs (d + 3) 145 [.ref 56, .int (nI p), .int a] S (fun r S' => r = x_fa (x_fw L n p) a ∧ ∀ q j, ¬ q = 74 → S' q j = S q j) := by
  refine x_Ci_of (by rw [ml_145]; rfl) (T_145_0 ?_)
  rw [h0, if_neg (by decide)]
  refine x_rd c_isPlacesM ?_
  rw [if_neg (x_b_ne (by rw [decide_eq_true_eq]; exact ⟨nI_pos' (by omega), nI_le (b := 511) (by omega) (by decide)⟩)), if_pos ha]
  refine ⟨_, c_layHeap hV hB hp, ?_⟩
  rintro v S1 ⟨hf, hv⟩
  have hlen : ∀ l, x_fw L n p = some l → l.length ≤ 3 := by
    intro l hl
    unfold x_fw at hl
    cases q0 : x_fu L n p 0 511 0 with
    | some l0 => rw [q0] at hl; cases hl; have := (x_fu_sub _ _ _ _ q0).2; omega
    | none =>
      rw [q0] at hl
      cases q1 : x_fu L n p 1 511 0 with
      | some l0 => rw [q1] at hl; cases hl; have := (x_fu_sub _ _ _ _ q1).2; omega
      | none =>
        rw [q1] at hl
        cases q2 : x_fu L n p 2 511 0 with
        | some l0 => rw [q2] at hl; cases hl; have := (x_fu_sub _ _ _ _ q2).2; omega
        | none => rw [q2] at hl; have := (x_fu_sub _ _ _ _ hl).2; omega
  cases ho : x_fw L n p with
  | none =>
    rw [ho] at hv
    have hv : v = -1000000 := hv
    rw [hv]
    by_cases h1 : a = -1
    · rw [if_pos h1]
      exact ⟨_, rfl, rfl, hf⟩
    · rw [if_neg h1, if_pos rfl]
      exact ⟨_, rfl, rfl, hf⟩
  | some l =>
    rw [ho] at hv
    obtain ⟨hv1, hv2⟩ : v = nI l.length ∧ ∀ j, j < l.length → S1 74 j = nI (l.getD j 0) := hv
    have h3 := hlen l ho
    rw [hv1]
    show if a = -1 then _ else _
    by_cases h1 : a = -1
    · rw [if_pos h1]
      exact ⟨_, rfl, by unfold x_fa; exact (if_pos h1).symm, hf⟩
    · rw [if_neg h1, if_neg (nI_neg1 (by omega))]
      have e : x_fa (some l) a = if nI l.length ≤ a then -1000000 else nI (l.getD a.toNatClampNeg 0) := by unfold x_fa; exact if_neg h1
      rw [e]
      by_cases h2 : nI l.length ≤ a
      · rw [if_pos h2, if_pos h2]
        exact ⟨_, rfl, rfl, hf⟩
      · rw [if_neg h2, if_neg h2]
        obtain ⟨j, hj, rfl⟩ := x_lt_nat (x_m1 ha h1) (Int32.not_le.mp h2) (by omega)
        refine ⟨x_ib_n (by omega) (by decide), ?_⟩
        rw [nI_clamp (by omega)]
        exact ⟨_, rfl, hv2 j hj, hf⟩
theorem c_fewestC {p : Nat} {a : Int32} (h0 : S 12 4 = 1) (hV : x_VC S n L T) (hB : x_VB n L T) (hp : p < 512) (ha : -1 ≤ a) : x_Ci xs (d + 6) 76 [.ref 8, .int (nI p), .int a] S (fun r S' => r = x_fa (x_fw L n p) a ∧ ∀ q j, ¬ q = 27 → S' q j = S q j) := by
  refine x_Ci_of (by rw [ml_76]; rfl) (T_76_0 ?_)
  rw [h0, if_neg (by decide)]
  refine x_rd c_arePlaces ?_
  rw [if_neg (x_b_ne (by rw [decide_eq_true_eq]; exact ⟨nI_pos' (by omega), nI_le (b := 511) (by omega) (by decide)⟩)), if_pos ha]
  have st : ∀ s (U : x_M), s ≤ 3 → (∀ q j, ¬ q = 27 → U q j = S q j) → (x_fu L n p s 511 0 = none → ∀ U' : x_M, (∀ q j, ¬ q = 27 → U' q j = S q j) → x_E xs (d + 6) 76 30 [.ref 8, .int (nI p), .int a, .int (nI s + 1)] [] U' (fun r S' => ∃ v : Int32, r = some (.int v) ∧ v = x_fa (x_fw L n p) a ∧ ∀ q j, ¬ q = 27 → S' q j = S q j)) → (∀ l, x_fu L n p s 511 0 = some l → x_fw L n p = some l) → x_E xs (d + 6) 76 30 [.ref 8, .int (nI p), .int a, .int (nI s)] [] U (fun r S' => ∃ v : Int32, r = some (.int v) ∧ v = x_fa (x_fw L n p) a ∧ ∀ q j, ¬ q = 27 → S' q j = S q j) := by
    intro s U hs hU hno hyes
    refine T_76_30 ?_
    rw [if_neg (show ¬ (3 : Int32) < nI s from nI_nlt (a := 3) hs (by decide))]
    have hc := c_findHeap (xs := xs) (d := d + 3 - s) (S := U) (n := n) (L := L) (T := T) (p := p) (size := s) (fr := 0) (sh := 511) hB hp s 0 (by omega) hs (by omega) (by omega) (x_VC_c (fun p k hp => hU p k (by omega)) hV)
    rw [show d + 3 - s + s + 2 = d + 5 by omega] at hc
    refine ⟨_, hc, ?_⟩
    rintro v S1 ⟨hf, hv⟩
    have hf2 : ∀ q j, ¬ q = 27 → S1 q j = S q j := fun q j hq => by rw [hf q j (by omega)]; exact hU q j hq
    cases ho : x_fu L n p s 511 0 with
    | none =>
      rw [ho] at hv
      have hv : v = 0 := hv
      rw [if_pos hv]
      exact hno ho S1 hf2
    | some l =>
      rw [ho] at hv
      obtain ⟨hv1, hv2⟩ : v = 1 ∧ ∀ j, j < s → S1 27 (0 + j) = nI (l.getD j 0) := hv
      have hll := (x_fu_sub _ _ _ _ ho).2
      rw [if_neg (by rw [hv1]; decide), hyes l ho]
      by_cases h1 : a = -1
      · rw [if_pos h1]
        exact ⟨_, rfl, by rw [← hll]; unfold x_fa; exact (if_pos h1).symm, hf2⟩
      · rw [if_neg h1]
        have e : x_fa (some l) a = if nI s ≤ a then -1000000 else nI (l.getD a.toNatClampNeg 0) := by rw [← hll]; unfold x_fa; exact if_neg h1
        rw [e]
        by_cases h2 : nI s ≤ a
        · rw [if_pos h2, if_pos h2]
          exact ⟨_, rfl, rfl, hf2⟩
        · rw [if_neg h2, if_neg h2]
          obtain ⟨j, hj, rfl⟩ := x_lt_nat (x_m1 ha h1) (Int32.not_le.mp h2) (by omega)
          rw [if_neg (show ¬ (3 : Int32) ≤ nI j from nI_ge (b := 3) (by omega) (by decide))]
          refine ⟨x_ib_n (by omega) (by decide), ?_⟩
          rw [nI_clamp (by omega)]
          have h5 := hv2 j hj
          rw [Nat.zero_add] at h5
          exact ⟨_, rfl, h5, hf2⟩
  refine st 0 S (by omega) (fun _ _ _ => rfl) (fun e0 U0 hU0 => ?_) (fun l e0 => by unfold x_fw; rw [e0])
  refine st 1 U0 (by omega) hU0 (fun e1 U1 hU1 => ?_) (fun l e1 => by unfold x_fw; rw [e0, e1])
  refine st 2 U1 (by omega) hU1 (fun e2 U2 hU2 => ?_) (fun l e2 => by unfold x_fw; rw [e0, e1, e2])
  refine st 3 U2 (by omega) hU2 (fun e3 U3 hU3 => ?_) (fun l e3 => by unfold x_fw; rw [e0, e1, e2, e3])
  refine T_76_30 ?_
  rw [if_pos (show (3 : Int32) < nI 3 + 1 by decide)]
  refine ⟨_, rfl, ?_, hU3⟩
  unfold x_fw
  rw [e0, e1, e2, e3]
  rfl
theorem o_fewest {a b : Int32} (H : x_Inv S) : x_Op xs (d + 6) 76 145 [.int a, .int b] S := by
  obtain ⟨n, n1, n2, n3, n4⟩ := x_view H
  rcases n4 with ⟨p1, p2, _⟩ | ⟨p1, p2, p3, p4⟩
  case inl =>
    refine x_Op_rd (v := -1000002) H ?_ ?_
    · refine x_Ci_of (by rw [ml_76]; rfl) (T_76_0 ?_)
      rw [if_pos p1]
      exact x_rt_i rfl
    · refine x_Ci_of (by rw [ml_145]; rfl) (T_145_0 ?_)
      rw [if_pos p2]
      exact x_rt_i rfl
  case inr =>
  by_cases hb : 0 ≤ a ∧ a ≤ 511
  case neg =>
    refine x_Op_rd (v := -1000001) H ?_ ?_
    · refine x_Ci_of (by rw [ml_76]; rfl) (T_76_0 ?_)
      rw [p1, if_neg (by decide)]
      refine x_rd c_arePlaces ?_
      rw [if_pos (x_b_0.mpr (fun z => hb (by rw [decide_eq_true_eq] at z; exact z)))]
      exact x_rt_i rfl
    · refine x_Ci_of (by rw [ml_145]; rfl) (T_145_0 ?_)
      rw [p2, if_neg (by decide)]
      refine x_rd c_isPlacesM ?_
      rw [if_pos (x_b_0.mpr (fun z => hb (by rw [decide_eq_true_eq] at z; exact z)))]
      exact x_rt_i rfl
  case pos =>
  by_cases he : -1 ≤ b
  case neg =>
    refine x_Op_rd (v := -1000001) H ?_ ?_
    · refine x_Ci_of (by rw [ml_76]; rfl) (T_76_0 ?_)
      rw [p1, if_neg (by decide)]
      refine x_rd c_arePlaces ?_
      rw [if_neg (x_b_ne (by rw [decide_eq_true_eq]; exact hb)), if_neg he]
      exact x_rt_i rfl
    · refine x_Ci_of (by rw [ml_145]; rfl) (T_145_0 ?_)
      rw [p2, if_neg (by decide)]
      refine x_rd c_isPlacesM ?_
      rw [if_neg (x_b_ne (by rw [decide_eq_true_eq]; exact hb)), if_neg he]
      exact x_rt_i rfl
  case pos =>
  obtain ⟨L, T, hB, hC, hM⟩ := x_vw n1 n2 n3 p4
  obtain ⟨p, hp, rfl⟩ := x_le_nat (n := 511) (Int32.not_lt.mpr hb.1) hb.2 (by decide)
  refine x_Ci_weak (c_fewestC p1 hC hB (by omega) he) ?_
  rintro v S1 ⟨rfl, g1⟩
  have hM1 : x_VM S1 n L T := x_VM_c (fun p k hp => g1 p k (by omega)) hM
  refine x_Ci_weak (c_fewestM (by rw [g1 57 0 (by omega)]; exact p2) hM1 hB (by omega) he) ?_
  rintro v S2 ⟨rfl, g2⟩
  exact ⟨rfl, x_Inv_c (fun p k hp => by rw [g2 p k (by omega), g1 p k (by omega)]) H⟩
end OFEWEST
