def x_bu (o : Option (Int × Nat)) : Int32 := match o with
  | none => -1000000000
  | some (b, _) => iI b
def x_lm (n size : Nat) (c : Nat → Nat) (i : Nat) : Nat := if i < size then 8 * c i else 8 * n
def x_fB (B : x_Bs) : Nat := x_pop (x_b0 B) 14 + x_pop (x_b1 B) 14
/-- what is kept of the states
-/
def x_Mm (S : x_M) (L T : Nat → Nat) (n l0 l1 size : Nat) (c : Nat → Nat) : Prop := ∀ m h sh, m < 2 ^ size → h < 2 → sh < 512 → S 26 (x_ix m h sh) = -1000000000 ∨ S 26 (x_ix m h sh) = iI (x_val (x_ld L T n (x_fB (x_BmS l0 l1 size c m h sh)) (x_BmS l0 l1 size c m h sh)))
section LEAD
variable {xs : List Int32} {d : Nat} {n : Nat} {L T : Nat → Nat} {l0 l1 size o0 o1 : Nat} {c : Nat → Nat}
theorem x_Bm_h {m h sh : Nat} : x_bh (x_BmS l0 l1 size c m h sh) = (if h = 0 then l0 else l1) &&& x_ms c m size := by
  show (if h = 0 then l0 &&& x_ms c m size else l1 &&& x_ms c m size) = _
  split <;> rfl
/-- a play of no card of the hand -/
theorem x_lv_no {G : x_Bs → Option (Int × Nat)} {m h sh v : Nat} (hno : ∀ i, i < size → ¬ (c i = v / 8 ∧ m.testBit i = true ∧ (if h = 0 then l0 else l1).testBit (c i) = true)) : x_lv L T G (x_BmS l0 l1 size c m h sh) v = none := by
  unfold x_lv
  rw [x_Bm_h, if_neg]
  intro z
  rw [Nat.testBit_and, Bool.and_eq_true] at z
  obtain ⟨i, h1, h2, h3⟩ := (x_ms_bit size).mp z.2
  exact hno i h1 ⟨h3, h2, by rw [h3]; exact z.1⟩
/-- between the cards there is nothing -/
theorem x_opt_lm {G : x_Bs → Option (Int × Nat)} {m h sh a i : Nat} (H : x_OB l0 l1 n size c o0 o1) (ha : a ≤ x_lm n size c i) (hlo : ∀ j, j < i → j < size → 8 * c j + 8 ≤ a) : x_opt (x_lv L T G (x_BmS l0 l1 size c m h sh)) (x_lm n size c i) = x_opt (x_lv L T G (x_BmS l0 l1 size c m h sh)) a := by
  have e : x_lm n size c i = a + (x_lm n size c i - a) := by omega
  rw [e]
  refine x_opt_skip _ (fun v h1 h2 => x_lv_no (fun j hj z => ?_))
  have h3 : v < x_lm n size c i := by omega
  unfold x_lm at h3
  by_cases hji : j < i
  · have := hlo j hji hj
    omega
  · by_cases his : i < size
    · rw [if_pos his] at h3
      by_cases hij : i = j
      · rw [hij] at h3; omega
      · have := H.2.1 i j (by omega) hj
        omega
    · omega
theorem x_lm_le (H : x_OB l0 l1 n size c o0 o1) (i : Nat) : x_lm n size c i ≤ 8 * n := by
  unfold x_lm
  split
  next h => have := (H.1 i h).1; omega
  next h => exact Nat.le_refl _
theorem x_Bm_nx {m h sh i v : Nat} (H : x_OB l0 l1 n size c o0 o1) (hsz : size ≤ 4) (hn : n ≤ 14) (b0 : l0 < 2 ^ n) (b1 : l1 < 2 ^ n) (hd : l0 &&& l1 = 0) (hm : m < 2 ^ size) (hh : h < 2) (hi : i < size) (hv : v / 8 = c i) (hl : (if h = 0 then l0 else l1).testBit (c i) = true) :
    x_bnx L v (x_BmS l0 l1 size c m h sh) = x_BmS l0 l1 size c (x_cl0 m i) (if x_cl0 m i &&& (if h = 0 then o1 else o0) = 0 then h else 1 - h) (if sh &&& L v = 0 then 511 else sh &&& L v) := by
  have hinj := x_OB_inj H
  have h2n := x_2n hn
  have hle : x_cl0 m i < 2 ^ size := x_cl0_lt hm
  have e0 := x_ms_cl (l := l0) (m := m) hinj hi hsz (by omega)
  have e1 := x_ms_cl (l := l1) (m := m) hinj hi hsz (by omega)
  have dis : ∀ q, l0.testBit q = true → l1.testBit q = true → False := by
    intro q h1 h2
    have e : (l0 &&& l1).testBit q = true := by rw [Nat.testBit_and, h1, h2]; rfl
    rw [hd, Nat.zero_testBit] at e
    exact absurd e (by decide)
  rcases (by omega : h = 0 ∨ h = 1) with rfl | rfl
  · rw [if_pos rfl] at hl
    have hno : (l1 &&& x_ms c m size).testBit (c i) = false := by
      rw [Nat.testBit_and]
      cases hq : l1.testBit (c i) with
      | false => rfl
      | true => exact (dis _ hl hq).elim
    have e1' : l1 &&& x_ms c (x_cl0 m i) size = l1 &&& x_ms c m size := by rw [e1, x_cl0_no (Nat.lt_of_le_of_lt Nat.and_le_left b1) hn hno]
    have hz := x_ms_z (l := l1) (o := o1) hle (fun j hj => (H.2.2.2.1 j hj).2)
    rw [e1'] at hz
    show ((if sh &&& L v = 0 then 511 else sh &&& L v), (if (if (0 : Nat) = 0 then l1 &&& x_ms c m size else l0 &&& x_ms c m size) = 0 then 0 else 1 - 0), (if (0 : Nat) = 0 then x_cl0 (l0 &&& x_ms c m size) (v / 8) else l0 &&& x_ms c m size), (if (0 : Nat) = 0 then l1 &&& x_ms c m size else x_cl0 (l1 &&& x_ms c m size) (v / 8))) = ((if sh &&& L v = 0 then 511 else sh &&& L v), (if x_cl0 m i &&& (if (0 : Nat) = 0 then o1 else o0) = 0 then 0 else 1 - 0), l0 &&& x_ms c (x_cl0 m i) size, l1 &&& x_ms c (x_cl0 m i) size)
    rw [if_pos rfl, if_pos rfl, if_pos rfl, if_pos rfl, e0, e1', hv]
    by_cases z : l1 &&& x_ms c m size = 0
    · rw [if_pos z, if_pos (hz.mpr z)]
    · rw [if_neg z, if_neg (fun y => z (hz.mp y))]
  · rw [if_neg (by omega)] at hl
    have hno : (l0 &&& x_ms c m size).testBit (c i) = false := by
      rw [Nat.testBit_and]
      cases hq : l0.testBit (c i) with
      | false => rfl
      | true => exact (dis _ hq hl).elim
    have e0' : l0 &&& x_ms c (x_cl0 m i) size = l0 &&& x_ms c m size := by rw [e0, x_cl0_no (Nat.lt_of_le_of_lt Nat.and_le_left b0) hn hno]
    have hz := x_ms_z (l := l0) (o := o0) hle (fun j hj => (H.2.2.2.1 j hj).1)
    rw [e0'] at hz
    have h10 : ¬ (1 : Nat) = 0 := by omega
    show ((if sh &&& L v = 0 then 511 else sh &&& L v), (if (if (1 : Nat) = 0 then l1 &&& x_ms c m size else l0 &&& x_ms c m size) = 0 then 1 else 1 - 1), (if (1 : Nat) = 0 then x_cl0 (l0 &&& x_ms c m size) (v / 8) else l0 &&& x_ms c m size), (if (1 : Nat) = 0 then l1 &&& x_ms c m size else x_cl0 (l1 &&& x_ms c m size) (v / 8))) = ((if sh &&& L v = 0 then 511 else sh &&& L v), (if x_cl0 m i &&& (if (1 : Nat) = 0 then o1 else o0) = 0 then 1 else 1 - 1), l0 &&& x_ms c (x_cl0 m i) size, l1 &&& x_ms c (x_cl0 m i) size)
    rw [if_neg h10, if_neg h10, if_neg h10, if_neg h10, e1, e0', hv]
    by_cases z : l0 &&& x_ms c m size = 0
    · rw [if_pos z, if_pos (hz.mpr z)]
    · rw [if_neg z, if_neg (fun y => z (hz.mp y))]
set_option maxHeartbeats 2000000 in
theorem c_lead (hB : x_VB n L T) (H : x_OB l0 l1 n size c o0 o1) (hsz : size ≤ 4) (b0 : l0 < 2 ^ n) (b1 : l1 < 2 ^ n) (hd : l0 &&& l1 = 0) : ∀ f m h sh (S : x_M), f ≤ 4 → m < 2 ^ size → h < 2 → sh < 512 → x_BW n f (x_BmS l0 l1 size c m h sh) → x_VC S n L T → x_OS S size c o0 o1 → x_Mm S L T n l0 l1 size c →
    x_Ci xs (d + f + 3) 72 [.ref 12, .ref 23, .int (nI (x_ix m h sh)), .int (nI f)] S (fun r S' => r = iI (x_val (x_ld L T n f (x_BmS l0 l1 size c m h sh))) ∧ x_Mm S' L T n l0 l1 size c ∧ (∀ p j, ¬ p = 26 → ¬ (p = 23 ∧ j = 4) → S' p j = S p j) ∧ (1 ≤ f → S 26 (x_ix m h sh) = -1000000000 → S' 23 4 = x_bp (x_ld L T n f (x_BmS l0 l1 size c m h sh)) 0)) := by
  have hn := hB.1
  have hT := hB.2.1
  have h2s : 2 ^ size ≤ 2 ^ 4 := Nat.pow_le_pow_right (by omega) hsz
  intro f
  induction f with
  | zero =>
    intro m h sh S hf hm hh hs hW hV hS hM
    refine x_Ci_of (by rw [ml_72]; rfl) (T_72_0 (by decide) ?_)
    rw [if_pos (show nI 0 ≤ 0 by decide)]
    exact ⟨_, rfl, rfl, hM, fun p j _ _ => rfl, fun z => by omega⟩
  | succ f ih =>
    intro m h sh S hf hm hh hs hW hV hS hM
    have hm16 : m < 16 := by omega
    have hlt := x_ix_lt hm16 hh hs
    generalize hBd : x_BmS l0 l1 size c m h sh = B at hW
    have hfB : x_fB B = f + 1 := hW.2.2.2.2.1
    refine x_Ci_of (by rw [ml_72]; rfl) (T_72_0 (by decide) ?_)
    rw [if_neg (show ¬ nI (f + 1) ≤ 0 from nI_ge (b := f + 1) (a := 0) (by omega) (by omega)), if_neg (nI_pos (by omega)), if_pos (show nI (x_ix m h sh) < 16384 from nI_lt (b := 16384) hlt (by decide)), nI_clamp (by omega)]
    have ibx : x_ib (nI (x_ix m h sh)) 16384 := x_ib_n hlt (by decide)
    refine ⟨ibx, ?_⟩
    by_cases hU : S 26 (x_ix m h sh) = -1000000000
    case neg =>
      rw [if_neg hU]
      refine ⟨ibx, _, rfl, ?_, hM, fun p j _ _ => rfl, fun _ z => absurd z hU⟩
      rcases hM m h sh hm hh hs with h1 | h1
      · exact absurd h1 hU
      · rw [h1, hBd, hfB]
    case pos =>
    rw [if_pos hU]
    refine x_rd (c_handOf hm16 hh hs) ?_
    generalize hVd : x_lv L T (x_ld L T n f) B = V
    have hld : x_ld L T n (f + 1) B = x_opt V (8 * n) := by rw [← hVd]; rfl
    have hVb : ∀ v e, V v = some e → -4455 ≤ e ∧ e ≤ 4455 := by
      intro v e he
      rw [← hVd] at he
      have := x_lv_b hT he
      omega
    have hlm : ∀ a i, a ≤ x_lm n size c i → (∀ j, j < i → j < size → 8 * c j + 8 ≤ a) → x_opt V (x_lm n size c i) = x_opt V a := by
      intro a i h1 h2
      have := x_opt_lm (L := L) (T := T) (G := x_ld L T n f) (m := m) (h := h) (sh := sh) H h1 h2
      rw [hBd, hVd] at this
      exact this
    generalize hQ : (fun (r : Option Value) (S' : x_M) => ∃ v : Int32, r = some (.int v) ∧ v = iI (x_val (x_ld L T n (f + 1) B)) ∧ x_Mm S' L T n l0 l1 size c ∧ (∀ p j, ¬ p = 26 → ¬ (p = 23 ∧ j = 4) → S' p j = S p j) ∧ (1 ≤ f + 1 → S 26 (x_ix m h sh) = -1000000000 → S' 23 4 = x_bp (x_ld L T n (f + 1) B) 0)) = Q
    have loop : ∀ i k (U : x_M) (a8 a9 a10 a11 a12 : Value), k + i = size → (∀ p j, ¬ p = 26 → ¬ (p = 23 ∧ j = 4) → U p j = S p j) → x_Mm U L T n l0 l1 size c → x_E xs (d + f + 3 + 1) 72 56 [.ref 12, .ref 23, .int (nI (x_ix m h sh)), .int (nI (f + 1)), .int (x_bu (x_opt V (x_lm n size c k))), .int (x_bp (x_opt V (x_lm n size c k)) 0), .int (nI h), .int (nI k), a8, a9, a10, a11, a12] [] U Q := by
      intro i
      induction i with
      | zero =>
        intro k U a8 a9 a10 a11 a12 hk hF hMU
        have hk : k = size := by omega
        subst hk
        refine T_72_56 (by decide) ?_
        rw [hF 23 3 (by omega) (by omega), hS.1, if_pos (Int32.le_refl _), nI_clamp (by omega)]
        obtain ⟨b, q, hbq, _⟩ := x_ld_some (L := L) (T := T) hn hW
        have hlmn : x_lm n k c k = 8 * n := if_neg (Nat.lt_irrefl _)
        rw [hlmn]
        have hbb := x_opt_b hVb (8 * n) b q (by rw [← hld]; exact hbq)
        have e1 : x_bu (x_opt V (8 * n)) = iI b := by rw [← hld, hbq]; rfl
        have e2 : x_bp (x_opt V (8 * n)) 0 = nI q := by rw [← hld, hbq]; rfl
        rw [e1, e2, if_neg (fun z => by
          have h1 := congrArg Int32.toInt z
          rw [iI_toInt (by omega) (by omega)] at h1
          have : (-1000000000 : Int32).toInt = -1000000000 := by decide
          omega)]
        refine ⟨ibx, ?_⟩
        intro S1 hS1 S2 hS2
        rw [← hQ]
        refine ⟨_, rfl, by rw [hbq]; rfl, ?_, fun p j z1 z2 => by rw [hS2, x_up_ne (by omega), hS1, x_up_ne (by omega)]; exact hF p j z1 z2, fun _ _ => ?_⟩
        · intro m' h' sh' hm' hh' hs'
          by_cases he : x_ix m' h' sh' = x_ix m h sh
          · obtain ⟨rfl, rfl, rfl⟩ := x_ix_inj hh' hs' hh hs he
            refine Or.inr ?_
            rw [hS2, x_up_ne (by omega), hS1, x_up_at, hBd, hfB, hbq]
            rfl
          · rw [hS2, x_up_ne (by omega), hS1, x_up_ne (by omega)]
            exact hMU m' h' sh' hm' hh' hs'
        · rw [hS2, x_up_at, hbq]
          rfl
      | succ i ihi =>
        intro k U a8 a9 a10 a11 a12 hk hF hMU
        have hks : k < size := by omega
        have hcn := (H.1 k hks).1
        have hob : (if h = 0 then o0 else o1) < 2 ^ 31 := by
          have := H.2.2.2.2.1
          have := H.2.2.2.2.2.1
          split <;> omega
        have hoU : ∀ (W : x_M), (∀ p j, ¬ p = 26 → ¬ (p = 23 ∧ j = 4) → W p j = S p j) → W 25 h = nI (if h = 0 then o0 else o1) := by
          intro W hW
          rcases (by omega : h = 0 ∨ h = 1) with e | e
          · rw [e, if_pos rfl, hW 25 0 (by omega) (by omega)]; exact hS.2.2.1
          · rw [e, if_neg (by omega), hW 25 1 (by omega) (by omega)]; exact hS.2.2.2
        refine T_72_56 (by decide) ?_
        rw [hF 23 3 (by omega) (by omega), hS.1, if_neg (nI_ge hks (by omega))]
        refine x_rd (c_holdsO hm16 hh hs (by omega) (hoU U hF) hob) ?_
        have hbit : (if h = 0 then o0 else o1).testBit k = (if h = 0 then l0 else l1).testBit (c k) := by
          have := H.2.2.2.1 k hks
          split
          · exact this.1
          · exact this.2
        rw [hbit]
        have hlmk : x_lm n size c k = 8 * c k := if_pos hks
        have hnext : x_lm n size c (k + 1) ≥ 8 * c k + 8 := by
          unfold x_lm
          split
          next h9 => have := H.2.1 k (k + 1) (by omega) h9; omega
          next h9 => omega
        have hend : x_opt V (x_lm n size c (k + 1)) = x_opt V (8 * c k + 8) := hlm _ _ hnext (fun j hj hjs => by
          by_cases e : j = k
          · rw [e]; omega
          · have := H.2.1 j k (by omega) hks; omega)
        by_cases hb : m.testBit k = true ∧ (if h = 0 then l0 else l1).testBit (c k) = true
        case neg =>
          rw [if_pos (x_b_0.mpr (fun z => hb (by rw [Bool.and_eq_true] at z; exact z))), ← nI_succ]
          have hno : x_opt V (8 * c k + 8) = x_opt V (8 * c k) := by
            refine x_opt_skip 8 (fun v h1 h2 => ?_)
            rw [← hVd, ← hBd]
            refine x_lv_no (fun j hj z => ?_)
            have : j = k := x_OB_inj H j k hj hks (by rw [z.1]; omega)
            rw [this] at z
            exact hb z.2
          rw [hlmk, ← hno, ← hend]
          exact ihi (k + 1) U _ _ _ _ _ (by omega) hF hMU
        case pos =>
        rw [if_neg (x_b_ne (by rw [Bool.and_eq_true]; exact hb)), hlmk]
        have inner : ∀ j w (U : x_M) (a9 a10 a11 a12 : Value), w + j = 8 → (∀ p j, ¬ p = 26 → ¬ (p = 23 ∧ j = 4) → U p j = S p j) → x_Mm U L T n l0 l1 size c → x_E xs (d + f + 3 + 1) 72 83 [.ref 12, .ref 23, .int (nI (x_ix m h sh)), .int (nI (f + 1)), .int (x_bu (x_opt V (8 * c k + w))), .int (x_bp (x_opt V (8 * c k + w)) 0), .int (nI h), .int (nI k), .int (nI w), a9, a10, a11, a12] [] U Q := by
          intro j
          induction j with
          | zero =>
            intro w U a9 a10 a11 a12 hw hF hMU
            refine T_72_83 (by decide) ?_
            rw [if_pos (by rw [show w = 8 by omega]; decide), ← nI_succ, show 8 * c k + w = 8 * c k + 8 by omega, ← hend]
            exact ihi (k + 1) U _ _ _ _ _ (by omega) hF hMU
          | succ j ihj =>
            intro w U a9 a10 a11 a12 hw hF hMU
            have hVU : x_VC U n L T := x_VC_c (fun p j hp => hF p j (by omega) (by omega)) hV
            have hOU : x_OS U size c o0 o1 := ⟨by rw [hF 23 3 (by omega) (by omega)]; exact hS.1, fun i hi => by rw [hF 24 i (by omega) (by omega)]; exact hS.2.1 i hi, by rw [hF 25 0 (by omega) (by omega)]; exact hS.2.2.1, by rw [hF 25 1 (by omega) (by omega)]; exact hS.2.2.2⟩
            have hLv := hB.2.2 (8 * c k + w) (by omega)
            have hs1 : sh &&& L (8 * c k + w) < 512 := Nat.lt_of_le_of_lt Nat.and_le_left hs
            refine T_72_83 (by decide) ?_
            rw [if_neg (show ¬ (8 : Int32) ≤ nI w from nI_ge (b := 8) (by omega) (by decide)), nI_clamp (n := k) (by omega), hOU.2.1 k hks, show (511 : Int32) = nI 511 from rfl, nI_and, x_ix_s hh hs]
            refine ⟨x_ib_n (by omega) (by decide), ?_⟩
            refine x_rd (c_lieC hVU hn hcn (by omega)) ?_
            rw [nI_and]
            have hob' : (if h = 0 then o1 else o0) < 2 ^ 31 := by
              have := H.2.2.2.2.1
              have := H.2.2.2.2.2.1
              split <;> omega
            have hoU' : U 25 (1 - h) = nI (if h = 0 then o1 else o0) := by
              rcases (by omega : h = 0 ∨ h = 1) with e | e
              · rw [e, if_pos rfl]; exact hOU.2.2.2
              · rw [e, if_neg (by omega)]; exact hOU.2.2.1
            refine x_rd (c_stateAfter hm16 hh hs (by omega) hoU' hob' hs1) ?_
            have hnx := x_Bm_nx (L := L) (m := m) (h := h) (sh := sh) (i := k) (v := 8 * c k + w) H hsz hn b0 b1 hd hm hh hks (by omega) hb.2
            rw [hBd] at hnx
            generalize hh' : (if x_cl0 m k &&& (if h = 0 then o1 else o0) = 0 then h else 1 - h) = h' at hnx
            generalize hs' : (if sh &&& L (8 * c k + w) = 0 then 511 else sh &&& L (8 * c k + w)) = s' at hnx
            have hh'2 : h' < 2 := by
              rw [← hh']
              by_cases hz : x_cl0 m k &&& (if h = 0 then o1 else o0) = 0
              · rw [if_pos hz]; exact hh
              · rw [if_neg hz]; omega
            have hs'2 : s' < 512 := by rw [← hs']; split <;> omega
            have hm' : x_cl0 m k < 2 ^ size := x_cl0_lt hm
            have hbB : (x_bh B).testBit ((8 * c k + w) / 8) = true := by
              rw [← hBd, x_Bm_h, Nat.testBit_and, show (8 * c k + w) / 8 = c k by omega, hb.2, Bool.true_and]
              exact (x_ms_bit size).mpr ⟨k, hks, hb.1, rfl⟩
            have hW2 : x_BW n f (x_BmS l0 l1 size c (x_cl0 m k) h' s') := by
              rw [← hnx]
              exact x_BW_nx hn hW hbB
            rw [show nI (f + 1) - 1 = nI f from nI_sub (a := f + 1) (b := 1) (by omega)]
            refine ⟨_, ih (x_cl0 m k) h' s' U (by omega) hm' hh'2 hs'2 hW2 hVU hOU hMU, ?_⟩
            rintro r S3 ⟨rfl, hM3, hF3, _⟩
            have hFS3 : ∀ p j, ¬ p = 26 → ¬ (p = 23 ∧ j = 4) → S3 p j = S p j := fun p j z1 z2 => by rw [hF3 p j z1 z2]; exact hF p j z1 z2
            refine x_rd (c_worC (x_VC_c (fun p j hp => hFS3 p j (by omega) (by omega)) hV) hs1) ?_
            refine x_rd (c_handOf (by omega) hh'2 hs'2) ?_
            have hx1 : x_bH (x_bnx L (8 * c k + w) B) = h' := by rw [hnx]; rfl
            have hx2 : x_bH B = h := by rw [← hBd]; rfl
            have hx3 : x_bS B = sh := by rw [← hBd]; rfl
            have hVv : V (8 * c k + w) = some ((x_wN T (sh &&& L (8 * c k + w)) 9 : Int) + (if h' = h then x_val (x_ld L T n f (x_BmS l0 l1 size c (x_cl0 m k) h' s')) else -(x_val (x_ld L T n f (x_BmS l0 l1 size c (x_cl0 m k) h' s'))))) := by
              rw [← hVd]
              unfold x_lv
              rw [if_pos hbB, hx1, hx2, hx3, hnx]
            have after : ∀ (e : Int) (s1 : Int32) (a11 : Value) (a11i : Int32), V (8 * c k + w) = some e → nI (x_wN T (sh &&& L (8 * c k + w)) 9) + s1 = iI e → x_E xs (d + f + 3 + 1) 72 159 [.ref 12, .ref 23, .int (nI (x_ix m h sh)), .int (nI (f + 1)), .int (x_bu (x_opt V (8 * c k + w))), .int (x_bp (x_opt V (8 * c k + w)) 0), .int (nI h), .int (nI k), .int (nI w), .int (nI (sh &&& L (8 * c k + w))), .int (nI (x_ix (x_cl0 m k) h' s')), .int a11i, a12] [.int s1, .int (nI (x_wN T (sh &&& L (8 * c k + w)) 9))] S3 Q := by
              intro e s1 a11 a11i he hse
              have heb := hVb _ e he
              refine T_72_159 (by decide) ?_
              rw [hse, nI_clamp (n := k) (by omega), hFS3 24 k (by omega) (by omega), hS.2.1 k hks, x_8cw, ← nI_succ]
              have go := ihj (w + 1) S3
              rw [show 8 * c k + (w + 1) = 8 * c k + w + 1 by omega] at go
              cases ho : x_opt V (8 * c k + w) with
              | none =>
                have ho1 := x_opt_0 he ho
                rw [ho1] at go
                rw [if_neg (by
                  show ¬ iI e ≤ iI (-1000000000)
                  rw [Int32.le_iff_toInt_le, iI_toInt (by omega) (by omega)]
                  have : (iI (-1000000000)).toInt = -1000000000 := by decide
                  omega)]
                exact ⟨x_ib_n (by omega) (by decide), go _ _ _ _ (by omega) hFS3 hM3⟩
              | some p =>
                obtain ⟨b, q⟩ := p
                have hob := x_opt_b hVb _ _ _ ho
                have ho1 := x_opt_s he ho
                rw [ho1] at go
                by_cases hle : b < e
                · rw [if_pos hle] at go
                  rw [if_neg (by show ¬ iI e ≤ iI b; rw [iI_le (by omega) (by omega) (by omega) (by omega)]; omega)]
                  exact ⟨x_ib_n (by omega) (by decide), go _ _ _ _ (by omega) hFS3 hM3⟩
                · rw [if_neg hle] at go
                  rw [if_pos (by show iI e ≤ iI b; rw [iI_le (by omega) (by omega) (by omega) (by omega)]; omega)]
                  exact go _ _ _ _ (by omega) hFS3 hM3
            have keyh : nI h' = nI h ↔ h' = h := nI_eq (by omega) (by omega)
            by_cases hhe : h' = h
            · rw [if_pos (keyh.mpr hhe)]
              rw [if_pos hhe] at hVv
              exact after _ _ .null _ hVv (by rw [iI_n, iI_add])
            · rw [if_neg (fun z => hhe (keyh.mp z))]
              rw [if_neg hhe] at hVv
              exact after _ _ .null _ hVv (by rw [iI_n, iI_neg, iI_add])
        have h0 := inner 8 0 U a9 a10 a11 a12 rfl hF hMU
        exact h0
    have h0 := loop size 0 S .null .null .null .null .null (by omega) (fun _ _ _ _ => rfl) hM
    rw [hlm 0 0 (by omega) (fun j hj => by omega)] at h0
    exact h0
end LEAD
