/-! FEWEST -/
def x_first (f : Nat → Option (List Nat)) : Nat → Nat → Option (List Nat)
  | 0, _ => none
  | j + 1, v => match f v with
    | some r => some r
    | none => x_first f j (v + 1)
def x_cons (v : Nat) : Option (List Nat) → Option (List Nat)
  | none => none
  | some l => some (v :: l)
def x_fu (L : Nat → Nat) (n p : Nat) : Nat → Nat → Nat → Option (List Nat)
  | 0, sh, _ => if sh = p then some [] else none
  | k + 1, sh, fr => x_first (fun v => x_cons v (x_fu L n p k (sh &&& L v) (v / 8 + 1))) (8 * n - 8 * fr) (8 * fr)
theorem x_first_some {f : Nat → Option (List Nat)} {j v : Nat} {r : List Nat} (h : f v = some r) : x_first f (j + 1) v = some r := by
  show (match f v with | some r => some r | none => x_first f j (v + 1)) = _
  rw [h]
theorem x_first_none {f : Nat → Option (List Nat)} {j v : Nat} (h : f v = none) : x_first f (j + 1) v = x_first f j (v + 1) := by
  show (match f v with | some r => some r | none => x_first f j (v + 1)) = _
  rw [h]
theorem x_first_ex {f : Nat → Option (List Nat)} {r : List Nat} : ∀ j v, x_first f j v = some r → ∃ u, f u = some r := by
  intro j
  induction j with
  | zero => intro v h; cases h
  | succ j ih =>
    intro v h
    cases hv : f v with
    | none => rw [x_first_none hv] at h; exact ih _ h
    | some q => rw [x_first_some hv] at h; exact ⟨v, by rw [hv, h]⟩
theorem x_cons_some {v : Nat} {o : Option (List Nat)} {r : List Nat} (h : x_cons v o = some r) : ∃ l, o = some l ∧ r = v :: l := by
  cases o with
  | none => cases h
  | some l => cases h; exact ⟨l, rfl, rfl⟩
/-- what shows at the end showed ahead of it -/
theorem x_fu_sub {L : Nat → Nat} {n p : Nat} : ∀ k sh fr l, x_fu L n p k sh fr = some l → sh &&& p = p ∧ l.length = k := by
  intro k
  induction k with
  | zero =>
    intro sh fr l h
    have h : (if sh = p then some [] else none) = some l := h
    by_cases hp : sh = p
    · rw [if_pos hp] at h
      cases h
      subst hp
      exact ⟨Nat.and_self sh, rfl⟩
    · rw [if_neg hp] at h
      cases h
  | succ k ih =>
    intro sh fr l h
    obtain ⟨u, hu⟩ := x_first_ex _ _ h
    obtain ⟨l2, h2, rfl⟩ := x_cons_some hu
    obtain ⟨h3, h4⟩ := ih _ _ _ h2
    refine ⟨?_, by rw [List.length_cons, h4]⟩
    have h5 : sh &&& (sh &&& L u &&& p) = sh &&& L u &&& p := by
      rw [← Nat.and_assoc, ← Nat.and_assoc, Nat.and_self]
    rw [h3] at h5
    exact h5
theorem x_fu_lie {L : Nat → Nat} {n p k sh fr v : Nat} (h : ¬ L v &&& p = p) : x_fu L n p k (sh &&& L v) fr = none := by
  cases hf : x_fu L n p k (sh &&& L v) fr with
  | none => rfl
  | some l =>
    exfalso
    have h3 := (x_fu_sub _ _ _ _ hf).1
    refine h ?_
    have h5 : L v &&& (sh &&& L v &&& p) = sh &&& L v &&& p := by
      rw [← Nat.and_assoc, ← Nat.and_assoc, Nat.and_comm (L v) sh, Nat.and_assoc sh, Nat.and_self]
    rw [h3] at h5
    exact h5
/-- what a search leaves -/
def x_FP (g : Nat) (S : x_M) (laid k : Nat) (o : Option (List Nat)) (r : Int32) (S' : x_M) : Prop :=
  (∀ q j, ¬ (q = g ∧ laid ≤ j) → S' q j = S q j) ∧ match o with
    | none => r = 0
    | some l => r = 1 ∧ ∀ j, j < k → S' g (laid + j) = nI (l.getD j 0)
section FEWEST
variable {xs : List Int32} {d : Nat} {n : Nat} {L T : Nat → Nat}
set_option maxHeartbeats 1000000 in
theorem c_findHeap {p : Nat} (hB : x_VB n L T) (hp : p < 512) : ∀ k laid size fr sh, laid + k = size → size ≤ 3 → fr ≤ n → sh < 512 → ∀ S : x_M, x_VC S n L T → x_Ci xs (d + k + 2) 77 [.ref 12, .ref 27, .int (nI p), .int (nI sh), .int (nI fr), .int (nI laid), .int (nI size)] S (fun r S' => x_FP 27 S laid k (x_fu L n p k sh fr) r S') := by
  have hn := hB.1
  intro k
  induction k with
  | zero =>
    intro laid size fr sh hk hsz hfr hsh S hV
    refine x_Ci_of (by rw [ml_77]; rfl) (T_77_0 (by decide) ?_)
    rw [if_pos (nI_le (by omega) (by omega))]
    have key : nI sh = nI p ↔ sh = p := nI_eq (by omega) (by omega)
    show if nI sh = nI p then _ else _
    have e0 : x_fu L n p 0 sh fr = if sh = p then some [] else none := rfl
    by_cases h : sh = p
    · rw [if_pos (key.mpr h)]
      refine ⟨_, rfl, fun q j _ => rfl, ?_⟩
      rw [e0, if_pos h]
      exact ⟨rfl, fun j hj => by omega⟩
    · rw [if_neg (fun z => h (key.mp z))]
      refine ⟨_, rfl, fun q j _ => rfl, ?_⟩
      rw [e0, if_neg h]
  | succ k ih =>
    intro laid size fr sh hk hsz hfr hsh S hV
    refine x_Ci_of (by rw [ml_77]; rfl) (T_77_0 (by decide) ?_)
    rw [if_neg (nI_ge (by omega) (by omega)), if_pos (show nI laid < 3 from nI_lt (b := 3) (by omega) (by decide))]
    generalize ho : x_fu L n p (k + 1) sh fr = o
    have ho : x_first (fun v => x_cons v (x_fu L n p k (sh &&& L v) (v / 8 + 1))) (8 * n - 8 * fr) (8 * fr) = o := ho
    have loop : ∀ i c (U : x_M), c + i = n → (∀ q j, ¬ (q = 27 ∧ laid ≤ j) → U q j = S q j) → x_first (fun v => x_cons v (x_fu L n p k (sh &&& L v) (v / 8 + 1))) (8 * i) (8 * c) = o → ∀ a8 a9 : Value, x_E xs (d + k + 1 + 1 + 1) 77 29 [.ref 12, .ref 27, .int (nI p), .int (nI sh), .int (nI fr), .int (nI laid), .int (nI size), .int (nI c), a8, a9] [] U (fun r S' => ∃ v : Int32, r = some (.int v) ∧ x_FP 27 S laid (k + 1) o v S') := by
      intro i
      induction i with
      | zero =>
        intro c U hc hU hx a8 a9
        refine T_77_29 (by decide) ?_
        rw [(x_VC_c (fun p k hp => hU p k (by omega)) hV).1, if_pos (nI_le (by omega) (by omega))]
        refine ⟨_, rfl, hU, ?_⟩
        have hx : none = o := hx
        rw [← hx]
      | succ i ihc =>
        intro c U hc hU hx a8 a9
        refine T_77_29 (by decide) ?_
        rw [(x_VC_c (fun p k hp => hU p k (by omega)) hV).1, if_neg (nI_ge (by omega) (by omega))]
        have inner : ∀ j w (U : x_M), w + j = 8 → (∀ q j, ¬ (q = 27 ∧ laid ≤ j) → U q j = S q j) → x_first (fun v => x_cons v (x_fu L n p k (sh &&& L v) (v / 8 + 1))) (8 * i + j) (8 * c + w) = o → ∀ a9 : Value, x_E xs (d + k + 1 + 1 + 1) 77 41 [.ref 12, .ref 27, .int (nI p), .int (nI sh), .int (nI fr), .int (nI laid), .int (nI size), .int (nI c), .int (nI w), a9] [] U (fun r S' => ∃ v : Int32, r = some (.int v) ∧ x_FP 27 S laid (k + 1) o v S') := by
          intro j
          induction j with
          | zero =>
            intro w U hw hU hx a9
            refine T_77_41 (by decide) ?_
            rw [if_pos (by rw [show w = 8 by omega]; decide), ← nI_succ]
            exact ihc (c + 1) U (by omega) hU (by rw [show 8 * (c + 1) = 8 * c + w by omega]; exact hx) _ _
          | succ j ihw =>
            intro w U hw hU hx a9
            have hVU := x_VC_c (fun p k hp => hU p k (by omega)) hV
            refine T_77_41 (by decide) ?_
            rw [if_neg (show ¬ (8 : Int32) ≤ nI w from nI_ge (b := 8) (by omega) (by decide))]
            refine x_rd (c_lieC hVU hn (by omega) (by omega)) ?_
            rw [nI_and, nI_and, x_8cw, ← nI_succ, ← nI_succ, ← nI_succ]
            have hLv := hB.2.2 (8 * c + w) (by omega)
            have key : nI (L (8 * c + w) &&& p) = nI p ↔ L (8 * c + w) &&& p = p := nI_eq (Nat.lt_of_le_of_lt Nat.and_le_right (by omega)) (by omega)
            have hx2 : x_first (fun v => x_cons v (x_fu L n p k (sh &&& L v) (v / 8 + 1))) (8 * i + j + 1) (8 * c + w) = o := hx
            have ev : (8 * c + w) / 8 + 1 = c + 1 := by omega
            by_cases hl : L (8 * c + w) &&& p = p
            · rw [if_pos (key.mpr hl)]
              refine ⟨x_ib_n (by omega) (by decide), ?_⟩
              rw [nI_clamp (by omega)]
              intro S2 hS2
              have hU2 : ∀ q j, ¬ (q = 27 ∧ laid ≤ j) → S2 q j = S q j := fun q j hq => by rw [hS2, x_up_ne (by omega)]; exact hU q j hq
              refine ⟨_, ih (laid + 1) size (c + 1) (sh &&& L (8 * c + w)) (by omega) hsz (by omega) (Nat.lt_of_le_of_lt Nat.and_le_left hsh) S2 (x_VC_c (fun p k hp => hU2 p k (by omega)) hV), ?_⟩
              rintro r S3 ⟨hf, hr⟩
              have hU3 : ∀ q j, ¬ (q = 27 ∧ laid ≤ j) → S3 q j = S q j := fun q j hq => by rw [hf q j (by omega)]; exact hU2 q j hq
              cases hres : x_fu L n p k (sh &&& L (8 * c + w)) (c + 1) with
              | none =>
                rw [hres] at hr
                have hr : r = 0 := hr
                rw [if_pos hr]
                rw [x_first_none (by show x_cons _ _ = none; rw [ev, hres]; rfl)] at hx2
                exact ihw (w + 1) S3 (by omega) hU3 hx2 _
              | some l =>
                rw [hres] at hr
                obtain ⟨hr1, hr2⟩ : r = 1 ∧ ∀ j, j < k → S3 27 (laid + 1 + j) = nI (l.getD j 0) := hr
                rw [if_neg (by rw [hr1]; decide)]
                rw [x_first_some (r := (8 * c + w) :: l) (by show x_cons _ _ = _; rw [ev, hres]; rfl)] at hx2
                refine ⟨_, rfl, hU3, ?_⟩
                rw [← hx2]
                refine ⟨rfl, fun j hj => ?_⟩
                cases j with
                | zero => rw [hf 27 (laid + 0) (by omega), hS2]; exact x_up_at _ _ _ _
                | succ j =>
                  rw [show laid + (j + 1) = laid + 1 + j by omega, hr2 j (by omega)]
                  rfl
            · rw [if_neg (fun z => hl (key.mp z))]
              rw [x_first_none (by show x_cons _ _ = none; rw [x_fu_lie hl]; rfl)] at hx2
              exact ihw (w + 1) U (by omega) hU hx2 _
        exact inner 8 0 U rfl hU hx _
    exact loop (n - fr) fr S (by omega) (fun q j _ => rfl) (by rw [show 8 * (n - fr) = 8 * n - 8 * fr by omega]; exact ho) _ _
/-- the first heap, of the fewest cards -/
def x_fw (L : Nat → Nat) (n p : Nat) : Option (List Nat) := match x_fu L n p 0 511 0 with
  | some l => some l
  | none => match x_fu L n p 1 511 0 with
    | some l => some l
    | none => match x_fu L n p 2 511 0 with
      | some l => some l
      | none => x_fu L n p 3 511 0
/-- what is answered of it -/
def x_fa (o : Option (List Nat)) (a : Int32) : Int32 := match o with
  | none => -1000000
  | some l => if a = -1 then nI l.length else if nI l.length ≤ a then -1000000 else nI (l.getD a.toNatClampNeg 0)
end FEWEST
