section REF
variable {xs : List Int32} {d : Nat} {S : x_M}
theorem x_crdg {n : Nat} {a : Int32} (hn : n < 2 ^ 30) : (0 ≤ a ∧ a ≤ nI n - 1) ↔ (0 ≤ a ∧ a < nI n) := by
  have e0 := nI_toInt (n := n) (by omega)
  have e1 : (1 : Int32).toInt = 1 := by decide
  have e2 : (nI n - 1).toInt = n - 1 := by rw [x_sub_i (by omega) (by omega), e0, e1]
  rw [x_ge0, Int32.le_iff_toInt_le, Int32.lt_iff_toInt_lt, e2, e0]
  omega
theorem c_refuses1 {r i n c : Nat} {Q : Option Value → x_M → Prop} (hi : 40 * r + i + n ≤ 320) (hc : S 57 1 = nI c) (hc4 : c ≤ 14)
    (hbad : ¬ (∀ j, j < n → 0 ≤ S 61 (40 * r + i + j) ∧ S 61 (40 * r + i + j) < 8 * nI c) → Q (some (.int (-1000001))) S)
    (hgood : (∀ j, j < n → 0 ≤ S 61 (40 * r + i + j) ∧ S 61 (40 * r + i + j) < 8 * nI c) → x_E xs (d + 3) 134 85 [.ref 56, .int (nI (40 * r + i)), .int (nI n), .int 0, .null] [] (x_up (x_up (x_up S 67 0 (S 57 30)) 67 1 (S 57 31)) 67 2 (S 57 27)) Q) :
    x_E xs (d + 3) 134 0 [.ref 56, .int (nI (40 * r + i)), .int (nI n), .null, .null] [] S Q := by
  refine T_134_0 ?_
  have loop : ∀ q k, k + q = n → (∀ j, j < k → 0 ≤ S 61 (40 * r + i + j) ∧ S 61 (40 * r + i + j) < 8 * nI c) → x_E xs (d + 3) 134 2 [.ref 56, .int (nI (40 * r + i)), .int (nI n), .int (nI k), .null] [] S Q := by
    intro q
    induction q with
    | zero =>
      intro k hk hall
      have hkn : k = n := by omega
      subst hkn
      refine T_134_2 ?_
      rw [if_pos (Int32.le_refl _)]
      rintro S1 rfl S2 rfl S3 rfl
      exact hgood hall
    | succ q ih =>
      intro k hk hall
      refine T_134_2 ?_
      rw [if_neg (nI_ge (by omega) (by omega)), nI_add, nI_clamp (by omega)]
      refine ⟨x_ib_n (by omega) (by decide), x_rd c_in ?_⟩
      rw [x_in0, hc]
      have e8 : (8 : Int32) * nI c = nI (8 * c) := nI_mul 8 c
      split
      next h =>
        rw [x_b_0, decide_eq_true_eq, e8, x_crdg (by omega), ← e8] at h
        exact hbad (fun z => h (z k (by omega)))
      next h =>
        have h := Decidable.not_not.mp (fun z => h (x_b_0.mpr z))
        rw [decide_eq_true_eq, e8, x_crdg (by omega), ← e8] at h
        rw [← nI_succ]
        refine ih (k + 1) (by omega) (fun j hj => ?_)
        by_cases hjk : j = k
        · subst hjk
          exact h
        · exact hall j (by omega)
  exact loop n 0 (by omega) (fun j hj => by omega)
theorem c_refuses2 {r i n c : Nat} {A : x_Ga} {it : Nat → Nat} {L T : Nat → Int32} {U0 : x_M} (hi : 40 * r + i + n ≤ 320) (hc4 : c ≤ 14)
    (hit : ∀ j, j < n → it j < 8 * c ∧ S 61 (40 * r + i + j) = nI (it j)) (hL : ∀ v, v < 8 * c → ∃ q : Nat, q < 512 ∧ L v = nI q) (hw : x_AW c A)
    (hU : U0 67 0 = nI (x_Al0 A)) (hU1 : U0 67 1 = nI (x_Al1 A)) (hU2 : U0 67 2 = nI (x_Ah A)) (hag0 : ∀ p k, p ≠ 67 → U0 p k = S p k) :
    x_E xs (d + 3) 134 85 [.ref 56, .int (nI (40 * r + i)), .int (nI n), .int 0, .null] [] U0 (fun r' S' => ∃ v : Int32, r' = some (.int v) ∧ (v = if (∀ k, k < n → x_can L T it A k = true) then 0 else -1000002) ∧ ∀ p k, p ≠ 67 → S' p k = S p k) := by
  have hwk := x_its_w (T := T) hw hc4 (fun j hj => ⟨(hit j hj).1, hL _ (hit j hj).1⟩)
  have h2c := x_2n hc4
  have loop : ∀ q k (U : x_M), k + q = n → (∀ j, j < k → x_can L T it A j = true) → U 67 0 = nI (x_Al0 (x_its L T it A k)) → U 67 1 = nI (x_Al1 (x_its L T it A k)) → U 67 2 = nI (x_Ah (x_its L T it A k)) → (∀ p k, p ≠ 67 → U p k = S p k) → ∀ a4 : Value, x_E xs (d + 3) 134 85 [.ref 56, .int (nI (40 * r + i)), .int (nI n), .int (nI k), a4] [] U (fun r' S' => ∃ v : Int32, r' = some (.int v) ∧ (v = if (∀ k, k < n → x_can L T it A k = true) then 0 else -1000002) ∧ ∀ p k, p ≠ 67 → S' p k = S p k) := by
    intro q
    induction q with
    | zero =>
      intro k U hk hall t0 t1 t2 hag a4
      have hkn : k = n := by omega
      subst hkn
      refine T_134_85 ?_
      rw [if_pos (Int32.le_refl _)]
      exact ⟨_, rfl, (if_pos hall).symm, hag⟩
    | succ q ih =>
      intro k U hk hall t0 t1 t2 hag a4
      have hk' := hit k (by omega)
      have hwk' := hwk k (by omega)
      have w2 := hwk'.2.1
      have w3 := hwk'.2.2.1
      have hh := hwk'.2.2.2.2.1
      refine T_134_85 ?_
      rw [if_neg (nI_ge (by omega) (by omega)), nI_add, nI_clamp (n := 40 * r + i + k) (by omega)]
      refine ⟨x_ib_n (by omega) (by decide), ?_⟩
      rw [hag 61 _ (by omega), hk'.2]
      rcases (by omega : x_Ah (x_its L T it A k) = 0 ∨ x_Ah (x_its L T it A k) = 1) with e | e
      · rw [e] at t2
        have thd : x_hd (x_its L T it A k) = x_Al0 (x_its L T it A k) := by unfold x_hd; rw [e]; rfl
        have tot : x_ot (x_its L T it A k) = x_Al1 (x_its L T it A k) := by unfold x_ot; rw [e]; rfl
        rw [t2, nI_clamp (n := 0) (by omega), t0, show nI (it k) / 8 = nI (it k / 8) from nI_div (b := 8) (by omega) (by omega)]
        refine ⟨x_ib_n (by omega) (by decide), x_rd c_has ?_⟩
        rw [x_has_n (by omega) (by omega)]
        split
        next hz =>
          rw [x_b_0] at hz
          have hz' : ¬ x_can L T it A k = true := by unfold x_can; rw [thd]; exact hz
          exact ⟨_, rfl, (if_neg (fun z => hz' (z k (by omega)))).symm, hag⟩
        next hz =>
          have hz' : x_can L T it A k = true := by unfold x_can; rw [thd]; exact Decidable.not_not.mp (fun z => hz (x_b_0.mpr z))
          rw [t2, nI_clamp (n := 0) (by omega), t0]
          refine ⟨x_ib_n (by omega) (by decide), x_ib_n (by omega) (by decide), ?_⟩
          intro U2 hU2
          rw [x_cl0_n (by omega)] at hU2
          have v2 : U2 67 2 = nI 0 := by rw [hU2, x_up_ne (by omega), t2]
          rw [v2, show (1 : Int32) - nI 0 = nI 1 by decide, nI_clamp (n := 1) (by omega)]
          refine ⟨x_ib_n (by omega) (by decide), ?_⟩
          have vo : U2 67 1 = nI (x_Al1 (x_its L T it A k)) := by rw [hU2, x_up_ne (by omega), t1]
          have vh : U2 67 0 = nI (x_cl0 (x_Al0 (x_its L T it A k)) (it k / 8)) := by rw [hU2, x_up_at]
          rw [vo]
          have nxt : ∀ (U3 : x_M) (hx : Nat), U3 = x_up U2 67 2 (nI hx) → hx = x_Ah (x_stp L T (it k) (x_its L T it A k)) → x_E xs (d + 3) 134 85 [.ref 56, .int (nI (40 * r + i)), .int (nI n), .int (nI (k + 1)), .int (nI (it k))] [] U3 (fun r' S' => ∃ v : Int32, r' = some (.int v) ∧ (v = if (∀ k, k < n → x_can L T it A k = true) then 0 else -1000002) ∧ ∀ p k, p ≠ 67 → S' p k = S p k) := by
            intro U3 hx y1 y2
            refine ih (k + 1) U3 (by omega) (fun j hj => ?_) ?_ ?_ ?_ (fun p j z => by rw [y1, x_up_ne (by omega), hU2, x_up_ne (by omega), hag p j z]) _
            · by_cases hjk : j = k
              · subst hjk
                exact hz'
              · exact hall j (by omega)
            · rw [y1, x_up_ne (by omega)]
              show _ = nI (if x_Ah (x_its L T it A k) = 0 then x_cl0 (x_Al0 (x_its L T it A k)) (it k / 8) else x_Al0 (x_its L T it A k))
              rw [e]
              exact vh
            · rw [y1, x_up_ne (by omega)]
              show _ = nI (if x_Ah (x_its L T it A k) = 0 then x_Al1 (x_its L T it A k) else x_cl0 (x_Al1 (x_its L T it A k)) (it k / 8))
              rw [e]
              exact vo
            · rw [y1, x_up_at, y2]
              rfl
          have ehn : x_Ah (x_stp L T (it k) (x_its L T it A k)) = if x_ot (x_its L T it A k) = 0 then x_Ah (x_its L T it A k) else 1 - x_Ah (x_its L T it A k) := rfl
          rw [← nI_succ]
          split
          next hy =>
            rw [nI_eq0 (by omega)] at hy
            intro U3 hU3
            exact nxt U3 0 hU3 (by rw [ehn, tot, if_pos hy, e])
          next hy =>
            rw [nI_eq0 (by omega)] at hy
            intro U3 hU3
            exact nxt U3 1 hU3 (by rw [ehn, tot, if_neg hy, e])
      · rw [e] at t2
        have thd : x_hd (x_its L T it A k) = x_Al1 (x_its L T it A k) := by unfold x_hd; rw [e]; rfl
        have tot : x_ot (x_its L T it A k) = x_Al0 (x_its L T it A k) := by unfold x_ot; rw [e]; rfl
        rw [t2, nI_clamp (n := 1) (by omega), t1, show nI (it k) / 8 = nI (it k / 8) from nI_div (b := 8) (by omega) (by omega)]
        refine ⟨x_ib_n (by omega) (by decide), x_rd c_has ?_⟩
        rw [x_has_n (by omega) (by omega)]
        split
        next hz =>
          rw [x_b_0] at hz
          have hz' : ¬ x_can L T it A k = true := by unfold x_can; rw [thd]; exact hz
          exact ⟨_, rfl, (if_neg (fun z => hz' (z k (by omega)))).symm, hag⟩
        next hz =>
          have hz' : x_can L T it A k = true := by unfold x_can; rw [thd]; exact Decidable.not_not.mp (fun z => hz (x_b_0.mpr z))
          rw [t2, nI_clamp (n := 1) (by omega), t1]
          refine ⟨x_ib_n (by omega) (by decide), x_ib_n (by omega) (by decide), ?_⟩
          intro U2 hU2
          rw [x_cl0_n (by omega)] at hU2
          have v2 : U2 67 2 = nI 1 := by rw [hU2, x_up_ne (by omega), t2]
          rw [v2, show (1 : Int32) - nI 1 = nI 0 by decide, nI_clamp (n := 0) (by omega)]
          refine ⟨x_ib_n (by omega) (by decide), ?_⟩
          have vo : U2 67 0 = nI (x_Al0 (x_its L T it A k)) := by rw [hU2, x_up_ne (by omega), t0]
          have vh : U2 67 1 = nI (x_cl0 (x_Al1 (x_its L T it A k)) (it k / 8)) := by rw [hU2, x_up_at]
          rw [vo]
          have nxt : ∀ (U3 : x_M) (hx : Nat), U3 = x_up U2 67 2 (nI hx) → hx = x_Ah (x_stp L T (it k) (x_its L T it A k)) → x_E xs (d + 3) 134 85 [.ref 56, .int (nI (40 * r + i)), .int (nI n), .int (nI (k + 1)), .int (nI (it k))] [] U3 (fun r' S' => ∃ v : Int32, r' = some (.int v) ∧ (v = if (∀ k, k < n → x_can L T it A k = true) then 0 else -1000002) ∧ ∀ p k, p ≠ 67 → S' p k = S p k) := by
            intro U3 hx y1 y2
            refine ih (k + 1) U3 (by omega) (fun j hj => ?_) ?_ ?_ ?_ (fun p j z => by rw [y1, x_up_ne (by omega), hU2, x_up_ne (by omega), hag p j z]) _
            · by_cases hjk : j = k
              · subst hjk
                exact hz'
              · exact hall j (by omega)
            · rw [y1, x_up_ne (by omega)]
              show _ = nI (if x_Ah (x_its L T it A k) = 0 then x_cl0 (x_Al0 (x_its L T it A k)) (it k / 8) else x_Al0 (x_its L T it A k))
              rw [e]
              exact vo
            · rw [y1, x_up_ne (by omega)]
              show _ = nI (if x_Ah (x_its L T it A k) = 0 then x_Al1 (x_its L T it A k) else x_cl0 (x_Al1 (x_its L T it A k)) (it k / 8))
              rw [e]
              exact vh
            · rw [y1, x_up_at, y2]
              rfl
          have ehn : x_Ah (x_stp L T (it k) (x_its L T it A k)) = if x_ot (x_its L T it A k) = 0 then x_Ah (x_its L T it A k) else 1 - x_Ah (x_its L T it A k) := rfl
          rw [← nI_succ]
          split
          next hy =>
            rw [nI_eq0 (by omega)] at hy
            intro U3 hU3
            exact nxt U3 1 hU3 (by rw [ehn, tot, if_pos hy, e])
          next hy =>
            rw [nI_eq0 (by omega)] at hy
            intro U3 hU3
            exact nxt U3 0 hU3 (by rw [ehn, tot, if_neg hy, e])
  exact loop n 0 U0 (by omega) (fun j hj => by omega) hU hU1 hU2 hag0 _
/-- the reference's plays, none refused -/
theorem c_playsM {r i n c : Nat} {a4 : Int32} {A : x_Ga} {it : Nat → Nat} {L T : Nat → Int32} (hi : 40 * r + i + n ≤ 320) (hc4 : c ≤ 14)
    (hit : ∀ j, j < n → it j < 8 * c ∧ S 61 (40 * r + i + j) = nI (it j)) (hL : ∀ v, v < 8 * c → S 66 v = L v ∧ ∃ q : Nat, q < 512 ∧ L v = nI q) (hT : ∀ P, x_wsum (fun k => S 57 (16 + k)) P 9 = x_wsum T P 9) (hm : x_GM S 0 A) (hw : x_AW c A) :
    x_E xs (d + 4) 133 94 [.ref 56, .int (nI r), .int (nI i), .int (nI n), .int a4, .int 0, .int 0, .null, .null] [] S (fun r' S' => ∃ v : Int32, r' = some (.int v) ∧ v = x_sum L T it A n ∧ S' 56 4 = 0 ∧ x_GM S' 0 (x_its L T it A n) ∧ ∀ p k, ¬ (p = 57 ∧ 25 ≤ k ∧ k ≤ 32) → ¬ (p = 56 ∧ k = 4) → S' p k = S p k) := by
  have hwk := x_its_w (T := T) hw hc4 (fun j hj => ⟨(hit j hj).1, (hL _ (hit j hj).1).2⟩)
  have e40 : ∀ u v w : Nat, (40 : Int32) * nI u + nI v + nI w = nI (40 * u + v + w) := fun u v w => by rw [show (40 : Int32) = nI 40 from rfl, nI_mul, nI_add, nI_add]
  have loop : ∀ q k (U : x_M), k + q = n → x_GM U 0 (x_its L T it A k) → (∀ p k, ¬ (p = 57 ∧ 25 ≤ k ∧ k ≤ 32) → U p k = S p k) → ∀ a7 a8 : Value, x_E xs (d + 4) 133 94 [.ref 56, .int (nI r), .int (nI i), .int (nI n), .int a4, .int (x_sum L T it A k), .int (nI k), a7, a8] [] U (fun r' S' => ∃ v : Int32, r' = some (.int v) ∧ v = x_sum L T it A n ∧ S' 56 4 = 0 ∧ x_GM S' 0 (x_its L T it A n) ∧ ∀ p k, ¬ (p = 57 ∧ 25 ≤ k ∧ k ≤ 32) → ¬ (p = 56 ∧ k = 4) → S' p k = S p k) := by
    intro q
    induction q with
    | zero =>
      intro k U hk hU hag a7 a8
      have hkn : k = n := by omega
      subst hkn
      refine T_133_94 ?_
      rw [if_pos (Int32.le_refl _)]
      refine ⟨_, c_give, ?_⟩
      rintro w S1 ⟨rfl, hS1⟩
      refine ⟨_, rfl, rfl, by rw [hS1, x_up_at], ?_, fun p k z1 z2 => by rw [hS1, x_up_ne z2, hag p k z1]⟩
      obtain ⟨m1, m2, m3, m4, m5, m6, m7, m8⟩ := hU
      have f : ∀ j, S1 57 j = U 57 j := fun j => by rw [hS1, x_up_ne (by omega)]
      exact ⟨(f _).trans m1, (f _).trans m2, (f _).trans m3, (f _).trans m4, (f _).trans m5, (f _).trans m6, (f _).trans m7, (f _).trans m8⟩
    | succ q ih =>
      intro k U hk hU hag a7 a8
      have hk' := hit k (by omega)
      have hwk' := hwk k (by omega)
      have hh := hwk'.2.2.2.2.1
      refine T_133_94 ?_
      rw [if_neg (nI_ge (by omega) (by omega)), e40, nI_clamp (n := 40 * r + i + k) (by omega), hag 61 _ (by omega), hk'.2]
      refine ⟨x_ib_n (by omega) (by decide), _, c_playOf hc4 hk'.1 hU hwk', ?_⟩
      rintro v U2 ⟨u1, u2, u3⟩
      have e1 : U 66 (it k) = L (it k) := by rw [hag 66 _ (by omega)]; exact (hL _ hk'.1).1
      have e2 : ∀ P, x_wsum (fun k => U 57 (16 + k)) P 9 = x_wsum T P 9 := fun P => by
        rw [← hT P]
        exact x_wsum_c 9 (fun j hj => hag 57 _ (by omega))
      rw [x_stp_c e1 e2] at u2
      rw [x_gain_c e1 e2] at u1
      have hx : x_sum L T it A (k + 1) = x_sum L T it A k + (if x_Ah (x_its L T it A k) = 0 then x_gain L T (it k) (x_its L T it A k) else -x_gain L T (it k) (x_its L T it A k)) := rfl
      have hi := ih (k + 1) U2 (by omega) u2 (fun p j z => by rw [u3 p j z, hag p j z]) (.int (U 57 27)) (.int v)
      rw [hx, nI_succ] at hi
      have eh : U 57 27 = nI (x_Ah (x_its L T it A k)) := hU.2.2.1
      split
      next hz =>
        rw [eh, nI_eq0 (by omega)] at hz
        rw [if_pos hz, ← u1] at hi
        exact hi
      next hz =>
        rw [eh, nI_eq0 (by omega)] at hz
        rw [if_neg hz, ← u1] at hi
        exact hi
  exact loop n 0 S (by omega) hm (fun p k _ => rfl) _ _
end REF
