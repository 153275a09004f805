/-! FIT, ALIKE -/
def x_fitw (g : Nat → Int32) (a b : Int32) : Nat → Nat → Int32
  | 0, _ => -1000000
  | i + 1, w => if (a &&& g w) = b then nI w else x_fitw g a b i (w + 1)
def x_fits (h : Nat → Int32) : Nat → Nat → Int32 → Int32
  | 0, _, acc => acc
  | i + 1, c, acc => x_fits h i (c + 1) (if h c = -1000000 then acc else acc ||| (1 <<< (nI c &&& 31)))
def x_lok (R : Nat → Bool) : Nat → Nat → Nat
  | 0, k => k
  | i + 1, k => if R k = true then k else x_lok R i (k + 1)
def x_cls (lk : Nat → Nat) : Nat → Nat
  | 0 => 0
  | k + 1 => x_cls lk k + (if lk k = k then 1 else 0)
def x_al (L : Nat → Int32) (a b : Nat) : Bool := decide (∃ w : Nat, w < 8 ∧ L (8 * a + w) = L (8 * b))
theorem x_lok_le {R : Nat → Bool} : ∀ i k, x_lok R i k ≤ k + i := by
  intro i
  induction i with
  | zero => intro k; exact Nat.le_refl _
  | succ i ih =>
    intro k
    show (if R k = true then k else x_lok R i (k + 1)) ≤ _
    split
    · omega
    · have := ih (k + 1); omega
theorem x_lok_c {R R' : Nat → Bool} {N : Nat} (h : ∀ k, k < N → R k = R' k) : ∀ i k, k + i ≤ N → x_lok R i k = x_lok R' i k := by
  intro i
  induction i with
  | zero => intro k _; rfl
  | succ i ih =>
    intro k hk
    show (if R k = true then k else x_lok R i (k + 1)) = (if R' k = true then k else x_lok R' i (k + 1))
    rw [h k (by omega), ih (k + 1) (by omega)]
theorem x_cls_c {f g : Nat → Nat} : ∀ k, (∀ j, j < k → f j = g j) → x_cls f k = x_cls g k := by
  intro k
  induction k with
  | zero => intro _; rfl
  | succ k ih =>
    intro h
    show x_cls f k + (if f k = k then 1 else 0) = x_cls g k + (if g k = k then 1 else 0)
    rw [ih (fun j hj => h j (by omega)), h k (by omega)]
section FIT
variable {xs : List Int32} {d : Nat} {S : x_M} {n c : Nat} {L : Nat → Int32}
theorem c_fitC {a b : Int32} (hn : n ≤ 14) (hc : c < n) (hL : ∀ v, v < 8 * n → S 14 v = L v) : x_Cr xs (d + 2) 84 [.ref 12, .int a, .int b, .int (nI c)] S (x_fitw (fun w => L (8 * c + w)) a b 8 0) := by
  refine x_Ci_of (by rw [ml_84]; rfl) (T_84_0 (by decide) ?_)
  have loop : ∀ i w, w + i = 8 → x_E xs (d + 2) 84 3 [.ref 12, .int a, .int b, .int (nI c), .int (nI w)] [] S (fun r S' => ∃ v : Int32, r = some (.int v) ∧ v = x_fitw (fun w => L (8 * c + w)) a b i w ∧ S' = S) := by
    intro i
    induction i with
    | zero =>
      intro w hw
      refine T_84_3 (by decide) ?_
      rw [if_pos (by rw [show w = 8 by omega]; decide)]
      exact ⟨_, rfl, rfl, rfl⟩
    | succ i ih =>
      intro w hw
      refine T_84_3 (by decide) ?_
      rw [if_neg (show ¬ (8 : Int32) ≤ nI w from nI_ge (b := 8) (by omega) (by decide))]
      refine x_rd (c_lie (by decide) (by omega) (by omega)) ?_
      show if (a &&& S 14 (8 * c + w)) = b then _ else _
      rw [hL (8 * c + w) (by omega)]
      have hx : x_fitw (fun w => L (8 * c + w)) a b (i + 1) w = if (a &&& L (8 * c + w)) = b then nI w else x_fitw (fun w => L (8 * c + w)) a b i (w + 1) := rfl
      rw [hx]
      by_cases h : (a &&& L (8 * c + w)) = b
      · rw [if_pos h, if_pos h]; exact ⟨_, rfl, rfl, rfl⟩
      · rw [if_neg h, if_neg h, ← nI_succ]; exact ih (w + 1) (by omega)
  exact loop 8 0 rfl
theorem c_fitM {a b : Int32} (hn : n ≤ 14) (hc : c < n) (hL : ∀ v, v < 8 * n → S 66 v = L v) : x_Cr xs (d + 2) 155 [.ref 56, .int a, .int b, .int (nI c)] S (x_fitw (fun w => L (8 * c + w)) a b 8 0) := by
  refine x_Ci_of (by rw [ml_155]; rfl) (T_155_0 ?_)
  have loop : ∀ i w, w + i = 8 → x_E xs (d + 2) 155 3 [.ref 56, .int a, .int b, .int (nI c), .int (nI w)] [] S (fun r S' => ∃ v : Int32, r = some (.int v) ∧ v = x_fitw (fun w => L (8 * c + w)) a b i w ∧ S' = S) := by
    intro i
    induction i with
    | zero =>
      intro w hw
      refine T_155_3 ?_
      rw [if_pos (by rw [show w = 8 by omega]; decide)]
      exact ⟨_, rfl, rfl, rfl⟩
    | succ i ih =>
      intro w hw
      refine T_155_3 ?_
      rw [if_neg (show ¬ (8 : Int32) ≤ nI w from nI_ge (b := 8) (by omega) (by decide)), x_8cw, nI_clamp (by omega), hL (8 * c + w) (by omega)]
      refine ⟨x_ib_n (by omega) (by decide), ?_⟩
      have hx : x_fitw (fun w => L (8 * c + w)) a b (i + 1) w = if (a &&& L (8 * c + w)) = b then nI w else x_fitw (fun w => L (8 * c + w)) a b i (w + 1) := rfl
      rw [hx]
      by_cases h : (a &&& L (8 * c + w)) = b
      · rw [if_pos h, if_pos h]; exact ⟨_, rfl, rfl, rfl⟩
      · rw [if_neg h, if_neg h, ← nI_succ]; exact ih (w + 1) (by omega)
  exact loop 8 0 rfl
theorem c_fitsC {a b : Int32} (hn : n ≤ 14) (h5 : S 12 5 = nI n) (hL : ∀ v, v < 8 * n → S 14 v = L v) : x_E xs (d + 3) 83 65 [.ref 8, .int a, .int b, .int (-1), .int 0, .int 0] [] S (fun r S' => ∃ v : Int32, r = some (.int v) ∧ v = x_fits (fun c => x_fitw (fun w => L (8 * c + w)) a b 8 0) n 0 0 ∧ S' = S) := by
  have loop : ∀ i c acc, c + i = n → x_E xs (d + 3) 83 65 [.ref 8, .int a, .int b, .int (-1), .int acc, .int (nI c)] [] S (fun r S' => ∃ v : Int32, r = some (.int v) ∧ v = x_fits (fun c => x_fitw (fun w => L (8 * c + w)) a b 8 0) i c acc ∧ S' = S) := by
    intro i
    induction i with
    | zero =>
      intro c acc hc
      refine T_83_65 ?_
      rw [h5, if_pos (nI_le (by omega) (by omega))]
      exact ⟨_, rfl, rfl, rfl⟩
    | succ i ih =>
      intro c acc hc
      refine T_83_65 ?_
      rw [h5, if_neg (nI_ge (by omega) (by omega))]
      refine x_rd (c_fitC hn (by omega) hL) ?_
      have hx : x_fits (fun c => x_fitw (fun w => L (8 * c + w)) a b 8 0) (i + 1) c acc = x_fits (fun c => x_fitw (fun w => L (8 * c + w)) a b 8 0) i (c + 1) (if x_fitw (fun w => L (8 * c + w)) a b 8 0 = -1000000 then acc else acc ||| (1 <<< (nI c &&& 31))) := rfl
      rw [hx, ← nI_succ]
      split
      next h => exact ih (c + 1) _ (by omega)
      next h => exact ih (c + 1) _ (by omega)
  exact loop n 0 0 (by omega)
theorem c_fitsM {a b : Int32} (hn : n ≤ 14) (h5 : S 57 1 = nI n) (hL : ∀ v, v < 8 * n → S 66 v = L v) : x_E xs (d + 3) 154 61 [.ref 56, .int a, .int b, .int (-1), .int 0, .int 0] [] S (fun r S' => ∃ v : Int32, r = some (.int v) ∧ v = x_fits (fun c => x_fitw (fun w => L (8 * c + w)) a b 8 0) n 0 0 ∧ S' = S) := by
  have loop : ∀ i c acc, c + i = n → x_E xs (d + 3) 154 61 [.ref 56, .int a, .int b, .int (-1), .int acc, .int (nI c)] [] S (fun r S' => ∃ v : Int32, r = some (.int v) ∧ v = x_fits (fun c => x_fitw (fun w => L (8 * c + w)) a b 8 0) i c acc ∧ S' = S) := by
    intro i
    induction i with
    | zero =>
      intro c acc hc
      refine T_154_61 ?_
      rw [h5, if_pos (nI_le (by omega) (by omega))]
      exact ⟨_, rfl, rfl, rfl⟩
    | succ i ih =>
      intro c acc hc
      refine T_154_61 ?_
      rw [h5, if_neg (nI_ge (by omega) (by omega))]
      refine x_rd (c_fitM hn (by omega) hL) ?_
      have hx : x_fits (fun c => x_fitw (fun w => L (8 * c + w)) a b 8 0) (i + 1) c acc = x_fits (fun c => x_fitw (fun w => L (8 * c + w)) a b 8 0) i (c + 1) (if x_fitw (fun w => L (8 * c + w)) a b 8 0 = -1000000 then acc else acc ||| (1 <<< (nI c &&& 31))) := rfl
      rw [hx, ← nI_succ, Int32.or_zero]
      split
      next h => exact ih (c + 1) _ (by omega)
      next h => exact ih (c + 1) _ (by omega)
  exact loop n 0 0 (by omega)
theorem x_plc_b {a : Int32} (h : ¬ (0 ≤ a ∧ a ≤ 511)) : x_b (decide (0 ≤ a ∧ a ≤ 511)) = 0 := x_b_0.mpr (fun z => h (by rw [decide_eq_true_eq] at z; exact z))
theorem x_plc_g {a : Int32} (h : 0 ≤ a ∧ a ≤ 511) : ¬ x_b (decide (0 ≤ a ∧ a ≤ 511)) = 0 := x_b_ne (by rw [decide_eq_true_eq]; exact h)
theorem o_fit {a b e : Int32} (H : x_Inv S) : x_Op xs (d + 3) 83 154 [.int a, .int b, .int e] S := by
  obtain ⟨n, n1, n2, n3, n4⟩ := x_view H
  rcases n4 with ⟨p1, p2, _⟩ | ⟨p1, p2, p3, p4⟩
  case inl =>
    refine x_Op_rd (v := -1000002) H ?_ ?_
    · refine x_Ci_of (by rw [ml_83]; rfl) (T_83_0 ?_)
      rw [if_pos p1]
      exact x_rt_i rfl
    · refine x_Ci_of (by rw [ml_154]; rfl) (T_154_0 ?_)
      rw [if_pos p2]
      exact x_rt_i rfl
  case inr =>
  by_cases ha : 0 ≤ a ∧ a ≤ 511
  case neg =>
    refine x_Op_rd (v := -1000001) H ?_ ?_
    · refine x_Ci_of (by rw [ml_83]; rfl) (T_83_0 ?_)
      rw [p1, if_neg (by decide)]
      refine x_rd c_arePlaces ?_
      rw [if_pos (x_plc_b ha)]
      exact x_rt_i rfl
    · refine x_Ci_of (by rw [ml_154]; rfl) (T_154_0 ?_)
      rw [p2, if_neg (by decide)]
      refine x_rd c_isPlacesM ?_
      rw [if_pos (x_plc_b ha)]
      exact x_rt_i rfl
  case pos =>
  by_cases hb : 0 ≤ b ∧ b ≤ 511
  case neg =>
    refine x_Op_rd (v := -1000001) H ?_ ?_
    · refine x_Ci_of (by rw [ml_83]; rfl) (T_83_0 ?_)
      rw [p1, if_neg (by decide)]
      refine x_rd c_arePlaces ?_
      rw [if_neg (x_plc_g ha)]
      refine x_rd c_arePlaces ?_
      rw [if_pos (x_plc_b hb)]
      exact x_rt_i rfl
    · refine x_Ci_of (by rw [ml_154]; rfl) (T_154_0 ?_)
      rw [p2, if_neg (by decide)]
      refine x_rd c_isPlacesM ?_
      rw [if_neg (x_plc_g ha)]
      refine x_rd c_isPlacesM ?_
      rw [if_pos (x_plc_b hb)]
      exact x_rt_i rfl
  case pos =>
  have hLC : ∀ v, v < 8 * n → S 14 v = S 66 v := fun v hv => (x_On_v p4 hv).1
  by_cases he : e = -1
  · subst he
    refine x_Op_rd (v := x_fits (fun c => x_fitw (fun w => S 66 (8 * c + w)) a b 8 0) n 0 0) H ?_ ?_
    · refine x_Ci_of (by rw [ml_83]; rfl) (T_83_0 ?_)
      rw [p1, if_neg (by decide)]
      refine x_rd c_arePlaces ?_
      rw [if_neg (x_plc_g ha)]
      refine x_rd c_arePlaces ?_
      rw [if_neg (x_plc_g hb), if_pos rfl, if_pos rfl]
      exact c_fitsC n1 n2 hLC
    · refine x_Ci_of (by rw [ml_154]; rfl) (T_154_0 ?_)
      rw [p2, if_neg (by decide)]
      refine x_rd c_isPlacesM ?_
      rw [if_neg (x_plc_g ha)]
      refine x_rd c_isPlacesM ?_
      rw [if_neg (x_plc_g hb), if_pos rfl, if_pos rfl]
      exact c_fitsM n1 n3 (fun _ _ => rfl)
  · by_cases hc : 0 ≤ e ∧ e < nI n
    · obtain ⟨c, hcn, rfl⟩ := x_crd_n n1 hc
      refine x_Op_rd (v := x_fitw (fun w => S 66 (8 * c + w)) a b 8 0) H ?_ ?_
      · refine x_Ci_of (by rw [ml_83]; rfl) (T_83_0 ?_)
        rw [p1, if_neg (by decide)]
        refine x_rd c_arePlaces ?_
        rw [if_neg (x_plc_g ha)]
        refine x_rd c_arePlaces ?_
        rw [if_neg (x_plc_g hb), if_neg he]
        refine x_rd c_isCard ?_
        rw [if_neg (x_cardC' n2 hcn n1), if_neg he]
        exact x_rd (c_fitC n1 hcn hLC) (x_rt_i rfl)
      · refine x_Ci_of (by rw [ml_154]; rfl) (T_154_0 ?_)
        rw [p2, if_neg (by decide)]
        refine x_rd c_isPlacesM ?_
        rw [if_neg (x_plc_g ha)]
        refine x_rd c_isPlacesM ?_
        rw [if_neg (x_plc_g hb), if_neg he]
        refine x_rd c_isCardM ?_
        rw [if_neg (x_cardM' n3 hcn n1), if_neg he]
        exact x_rd (c_fitM n1 hcn (fun _ _ => rfl)) (x_rt_i rfl)
    · refine x_Op_rd (v := -1000001) H ?_ ?_
      · refine x_Ci_of (by rw [ml_83]; rfl) (T_83_0 ?_)
        rw [p1, if_neg (by decide)]
        refine x_rd c_arePlaces ?_
        rw [if_neg (x_plc_g ha)]
        refine x_rd c_arePlaces ?_
        rw [if_neg (x_plc_g hb), if_neg he]
        refine x_rd c_isCard ?_
        rw [if_pos (x_cardC n2 hc)]
        exact x_rt_i rfl
      · refine x_Ci_of (by rw [ml_154]; rfl) (T_154_0 ?_)
        rw [p2, if_neg (by decide)]
        refine x_rd c_isPlacesM ?_
        rw [if_neg (x_plc_g ha)]
        refine x_rd c_isPlacesM ?_
        rw [if_neg (x_plc_g hb), if_neg he]
        refine x_rd c_isCardM ?_
        rw [if_pos (x_cardM n1 n3 hc)]
        exact x_rt_i rfl
/-! alike -/
theorem c_least (hn : n ≤ 14) (hc : c < n) (hL : ∀ v, v < 8 * n → S 14 v = L v) : x_Cr xs (d + 2) 82 [.ref 12, .int (nI c)] S (nI (x_lok (fun k => x_al L k c) c 0)) := by
  refine x_Ci_of (by rw [ml_82]; rfl) (T_82_0 (by decide) ?_)
  have loop : ∀ i k, k + i = c → ∀ a3 : Value, x_E xs (d + 2) 82 2 [.ref 12, .int (nI c), .int (nI k), a3] [] S (fun r S' => ∃ v : Int32, r = some (.int v) ∧ v = nI (x_lok (fun k => x_al L k c) i k) ∧ S' = S) := by
    intro i
    induction i with
    | zero =>
      intro k hk a3
      have hkc : k = c := by omega
      subst hkc
      refine T_82_2 (by decide) ?_
      rw [if_pos (Int32.le_refl _)]
      exact ⟨_, rfl, rfl, rfl⟩
    | succ i ih =>
      intro k hk a3
      refine T_82_2 (by decide) ?_
      rw [if_neg (nI_ge (by omega) (by omega))]
      have hx : x_lok (fun k => x_al L k c) (i + 1) k = if x_al L k c = true then k else x_lok (fun k => x_al L k c) i (k + 1) := rfl
      have inner : ∀ j w, w + j = 8 → (∀ u, u < w → ¬ L (8 * k + u) = L (8 * c)) → x_E xs (d + 2) 82 9 [.ref 12, .int (nI c), .int (nI k), .int (nI w)] [] S (fun r S' => ∃ v : Int32, r = some (.int v) ∧ v = nI (x_lok (fun k => x_al L k c) (i + 1) k) ∧ S' = S) := by
        intro j
        induction j with
        | zero =>
          intro w hw hall
          refine T_82_9 (by decide) ?_
          rw [if_pos (by rw [show w = 8 by omega]; decide), ← nI_succ, hx, if_neg (by
            unfold x_al
            rw [decide_eq_true_eq]
            rintro ⟨u, hu, e⟩
            exact hall u (by omega) e)]
          exact ih (k + 1) (by omega) _
        | succ j ih2 =>
          intro w hw hall
          refine T_82_9 (by decide) ?_
          rw [if_neg (show ¬ (8 : Int32) ≤ nI w from nI_ge (b := 8) (by omega) (by decide))]
          refine x_rd (c_lie (by decide) (by omega) (by omega)) (x_rd (c_lie (w := 0) (by decide) (by omega) (by omega)) ?_)
          show if S 14 (8 * k + w) = S 14 (8 * c + 0) then _ else _
          rw [hL (8 * k + w) (by omega), hL (8 * c + 0) (by omega)]
          split
          next h =>
            rw [hx, if_pos (by unfold x_al; rw [decide_eq_true_eq]; exact ⟨w, by omega, h⟩)]
            exact ⟨_, rfl, rfl, rfl⟩
          next h =>
            rw [← nI_succ]
            refine ih2 (w + 1) (by omega) (fun u hu => ?_)
            by_cases huw : u = w
            · subst huw; exact h
            · exact hall u (by omega)
      exact inner 8 0 rfl (fun u hu => by omega)
  exact loop c 0 (by omega) _
theorem c_areAlike {a b : Nat} (hn : n ≤ 14) (ha : a < n) (hb : b < n) (hL : ∀ v, v < 8 * n → S 66 v = L v) : x_Cr xs (d + 1) 153 [.ref 56, .int (nI a), .int (nI b)] S (x_b (x_al L a b)) := by
  refine x_Ci_of (by rw [ml_153]; rfl) (T_153_0 ?_)
  have loop : ∀ i w, w + i = 8 → x_E xs (d + 1) 153 5 [.ref 56, .int (nI a), .int (nI b), .int (x_b (decide (∃ u : Nat, u < w ∧ L (8 * a + u) = L (8 * b)))), .int (nI w)] [] S (fun r S' => ∃ v : Int32, r = some (.int v) ∧ v = x_b (x_al L a b) ∧ S' = S) := by
    intro i
    induction i with
    | zero =>
      intro w hw
      have hw8 : w = 8 := by omega
      subst hw8
      refine T_153_5 ?_
      rw [if_pos (by decide)]
      exact ⟨x_b01 _, _, rfl, rfl, rfl⟩
    | succ i ih =>
      intro w hw
      refine T_153_5 ?_
      have hi := ih (w + 1) (by omega)
      rw [nI_succ] at hi
      rw [if_neg (show ¬ (8 : Int32) ≤ nI w from nI_ge (b := 8) (by omega) (by decide))]
      split
      next h =>
        rw [x_b_0, decide_eq_true_eq] at h
        rw [x_8cw, nI_clamp (by omega), show (8 : Int32) * nI b = nI (8 * b) from nI_mul 8 b, nI_clamp (by omega), hL (8 * a + w) (by omega), hL (8 * b) (by omega)]
        refine ⟨x_ib_n (by omega) (by decide), x_ib_n (by omega) (by decide), ?_⟩
        split
        next h2 =>
          rw [show decide (∃ u : Nat, u < w + 1 ∧ L (8 * a + u) = L (8 * b)) = true from decide_eq_true ⟨w, by omega, h2⟩] at hi
          exact hi
        next h2 =>
          rw [show decide (∃ u : Nat, u < w + 1 ∧ L (8 * a + u) = L (8 * b)) = false from decide_eq_false (by
            rintro ⟨u, hu, e⟩
            by_cases huw : u = w
            · subst huw; exact h2 e
            · exact h ⟨u, by omega, e⟩)] at hi
          exact hi
      next h =>
        have h := Decidable.not_not.mp (fun z => h (x_b_0.mpr z))
        rw [decide_eq_true_eq] at h
        obtain ⟨u, hu, e⟩ := h
        rw [show decide (∃ u : Nat, u < w + 1 ∧ L (8 * a + u) = L (8 * b)) = true from decide_eq_true ⟨u, by omega, e⟩] at hi
        exact hi
  have h0 := loop 8 0 rfl
  have e0 : ∀ w : Nat, w = 0 → decide (∃ u : Nat, u < w ∧ L (8 * a + u) = L (8 * b)) = false := fun w hw => decide_eq_false (by rintro ⟨u, hu, _⟩; omega)
  rw [e0 0 rfl] at h0
  exact h0
theorem x_al_r {a : Nat} : x_al L a a = true := by unfold x_al; rw [decide_eq_true_eq]; exact ⟨0, by omega, rfl⟩
theorem c_likeOf (hn : n ≤ 14) (hc : c < n) (hL : ∀ v, v < 8 * n → S 66 v = L v) : x_Cr xs (d + 2) 152 [.ref 56, .int (nI c)] S (nI (x_lok (fun k => x_al L c k) c 0)) := by
  refine x_Ci_of (by rw [ml_152]; rfl) (T_152_0 ?_)
  have loop : ∀ i k, k + i = c → x_E xs (d + 2) 152 2 [.ref 56, .int (nI c), .int (nI k)] [] S (fun r S' => ∃ v : Int32, r = some (.int v) ∧ v = nI (x_lok (fun k => x_al L c k) i k) ∧ S' = S) := by
    intro i
    induction i with
    | zero =>
      intro k hk
      have hkc : k = c := by omega
      subst hkc
      refine T_152_2 (x_rd (c_areAlike hn hc hc hL) ?_)
      rw [if_neg (x_b_ne x_al_r)]
      exact ⟨_, rfl, rfl, rfl⟩
    | succ i ih =>
      intro k hk
      refine T_152_2 (x_rd (c_areAlike hn hc (by omega) hL) ?_)
      have hx : x_lok (fun k => x_al L c k) (i + 1) k = if x_al L c k = true then k else x_lok (fun k => x_al L c k) i (k + 1) := rfl
      rw [hx]
      by_cases h : x_al L c k = true
      · rw [if_neg (x_b_ne h), if_pos h]
        exact ⟨_, rfl, rfl, rfl⟩
      · rw [if_pos (x_b_0.mpr h), if_neg h, ← nI_succ]
        exact ih (k + 1) (by omega)
  exact loop c 0 (by omega)
theorem c_classOf (hn : n ≤ 14) (hc : c < n) (hL : ∀ v, v < 8 * n → S 14 v = L v) : x_Cr xs (d + 3) 81 [.ref 12, .int (nI c)] S (nI (x_cls (fun c => x_lok (fun k => x_al L k c) c 0) (x_lok (fun k => x_al L k c) c 0))) := by
  have hle := x_lok_le (R := fun k => x_al L k c) c 0
  refine x_Ci_of (by rw [ml_81]; rfl) (T_81_0 (by decide) (x_rd (c_least hn hc hL) ?_))
  generalize x_lok (fun k => x_al L k c) c 0 = o at hle ⊢
  have loop : ∀ i k, k + i = o → x_E xs (d + 3) 81 11 [.ref 12, .int (nI c), .int (nI o), .int (nI (x_cls (fun c => x_lok (fun k => x_al L k c) c 0) k)), .int (nI k)] [] S (fun r S' => ∃ v : Int32, r = some (.int v) ∧ v = nI (x_cls (fun c => x_lok (fun k => x_al L k c) c 0) o) ∧ S' = S) := by
    intro i
    induction i with
    | zero =>
      intro k hk
      have hko : k = o := by omega
      subst hko
      refine T_81_11 (by decide) ?_
      rw [if_pos (Int32.le_refl _)]
      exact ⟨_, rfl, rfl, rfl⟩
    | succ i ih =>
      intro k hk
      refine T_81_11 (by decide) ?_
      rw [if_neg (nI_ge (by omega) (by omega))]
      refine x_rd (c_least (c := k) hn (by omega) hL) ?_
      have hi := ih (k + 1) (by omega)
      have hx : x_cls (fun c => x_lok (fun k => x_al L k c) c 0) (k + 1) = x_cls (fun c => x_lok (fun k => x_al L k c) c 0) k + (if x_lok (fun j => x_al L j k) k 0 = k then 1 else 0) := rfl
      have hk2 := x_lok_le (R := fun j => x_al L j k) k 0
      rw [hx] at hi
      rw [← nI_succ k]
      split
      next h =>
        rw [nI_eq (by omega) (by omega)] at h
        rw [if_pos h] at hi
        rw [← nI_succ]
        exact hi
      next h =>
        rw [nI_eq (by omega) (by omega)] at h
        rw [if_neg h] at hi
        exact hi
  exact loop o 0 (by omega)
theorem c_alikeM {b : Int32} (hn : n ≤ 14) (hc : c < n) (hL : ∀ v, v < 8 * n → S 66 v = L v) : x_E xs (d + 3) 150 44 [.ref 56, .int (nI c), .int b, .int (nI (x_lok (fun k => x_al L c k) c 0)), .int 0, .int 0] [] S (fun r S' => ∃ v : Int32, r = some (.int v) ∧ v = nI (x_cls (fun c => x_lok (fun k => x_al L c k) c 0) (x_lok (fun k => x_al L c k) c 0)) ∧ S' = S) := by
  have hle := x_lok_le (R := fun k => x_al L c k) c 0
  generalize x_lok (fun k => x_al L c k) c 0 = o at hle ⊢
  have loop : ∀ i k, k + i = o → x_E xs (d + 3) 150 44 [.ref 56, .int (nI c), .int b, .int (nI o), .int (nI (x_cls (fun c => x_lok (fun k => x_al L c k) c 0) k)), .int (nI k)] [] S (fun r S' => ∃ v : Int32, r = some (.int v) ∧ v = nI (x_cls (fun c => x_lok (fun k => x_al L c k) c 0) o) ∧ S' = S) := by
    intro i
    induction i with
    | zero =>
      intro k hk
      have hko : k = o := by omega
      subst hko
      refine T_150_44 ?_
      rw [if_pos (Int32.le_refl _)]
      exact ⟨_, rfl, rfl, rfl⟩
    | succ i ih =>
      intro k hk
      refine T_150_44 ?_
      rw [if_neg (nI_ge (by omega) (by omega))]
      refine x_rd (c_likeOf (c := k) hn (by omega) hL) ?_
      have hi := ih (k + 1) (by omega)
      have hx : x_cls (fun c => x_lok (fun k => x_al L c k) c 0) (k + 1) = x_cls (fun c => x_lok (fun k => x_al L c k) c 0) k + (if x_lok (fun j => x_al L k j) k 0 = k then 1 else 0) := rfl
      have hk2 := x_lok_le (R := fun j => x_al L k j) k 0
      rw [hx] at hi
      rw [← nI_succ k]
      split
      next h =>
        rw [nI_eq (by omega) (by omega)] at h
        rw [if_pos h] at hi
        rw [← nI_succ]
        exact hi
      next h =>
        rw [nI_eq (by omega) (by omega)] at h
        rw [if_neg h] at hi
        rw [Int32.add_zero]
        exact hi
  exact loop o 0 (by omega)
/-- each way has one that undoes it -/
def x_inv (w : Nat) : Nat := if w = 1 then 3 else if w = 3 then 1 else w
theorem x_inv_t0 : ((List.range 8).all fun w => (List.range 256).all fun m => x_lieN (x_lieN m w) (x_inv w) == m) = true := by decide +kernel
theorem x_inv_t1 : ((List.range 8).all fun w => (List.range 256).all fun m => x_lieN (x_lieN (256 + m) w) (x_inv w) == 256 + m) = true := by decide +kernel
theorem x_inv_e {m w : Nat} (hm : m < 512) (hw : w < 8) : x_lieN (x_lieN m w) (x_inv w) = m := by
  by_cases h : m < 256
  · have h1 := List.all_eq_true.mp (List.all_eq_true.mp x_inv_t0 w (List.mem_range.mpr hw)) m (List.mem_range.mpr h)
    simpa using h1
  · have h1 := List.all_eq_true.mp (List.all_eq_true.mp x_inv_t1 w (List.mem_range.mpr hw)) (m - 256) (List.mem_range.mpr (by omega))
    rw [show 256 + (m - 256) = m by omega] at h1
    simpa using h1
theorem x_inv_lt {w : Nat} (hw : w < 8) : x_inv w < 8 := by unfold x_inv; split; omega; split <;> omega
theorem x_al_half {a b ma mb : Nat} (h1 : ma < 512) (h2 : mb < 512) (ea : ∀ w, w < 8 → L (8 * a + w) = nI (x_lieN ma w)) (eb : ∀ w, w < 8 → L (8 * b + w) = nI (x_lieN mb w)) (h : x_al L a b = true) : x_al L b a = true := by
  unfold x_al at h ⊢
  rw [decide_eq_true_eq] at h ⊢
  obtain ⟨w, hw, e⟩ := h
  have e0 : L (8 * b) = nI mb := eb 0 (by omega)
  have e1 : L (8 * a) = nI ma := ea 0 (by omega)
  rw [ea w hw, e0, nI_eq (by have := x_lieN_lt h1 hw; omega) (by omega)] at e
  refine ⟨x_inv w, x_inv_lt hw, ?_⟩
  rw [eb _ (x_inv_lt hw), e1, ← e, x_inv_e h1 hw]
theorem x_On_al {a b : Nat} (H : x_On S n) (ha : a < n) (hb : b < n) : x_al (S 66) a b = x_al (S 66) b a := by
  obtain ⟨ma, h1, h2, h3, h4⟩ := x_On_c H ha
  obtain ⟨mb, g1, g2, g3, g4⟩ := x_On_c H hb
  by_cases h : x_al (S 66) a b = true
  · rw [h, x_al_half h1 g1 h4 g4 h]
  · by_cases g : x_al (S 66) b a = true
    · exact absurd (x_al_half g1 h1 g4 h4 g) h
    · rw [Bool.not_eq_true] at h g
      rw [h, g]
theorem o_alike {a b : Int32} (H : x_Inv S) : x_Op xs (d + 4) 80 150 [.int a, .int b] S := by
  refine o_card (a := a) H (fun n hn h => ?_) (fun n hn4 hn h => ?_) (fun n c n1 n2 n3 hc ha p1 p2 p4 => ?_)
  · refine x_Ci_of (by rw [ml_80]; rfl) (T_80_0 (x_rd c_isCard ?_))
    rw [if_pos (x_cardC hn h)]
    exact x_rt_i rfl
  · refine x_Ci_of (by rw [ml_150]; rfl) (T_150_0 (x_rd c_isCardM ?_))
    rw [if_pos (x_cardM hn4 hn h)]
    exact x_rt_i rfl
  · subst ha
    have hLC : ∀ v, v < 8 * n → S 14 v = S 66 v := fun v hv => (x_On_v p4 hv).1
    by_cases hb : 0 ≤ b ∧ b ≤ 1
    case neg =>
      refine x_Op_rd (v := -1000001) H ?_ ?_
      · refine x_Ci_of (by rw [ml_80]; rfl) (T_80_0 (x_rd c_isCard ?_))
        rw [if_neg (x_cardC' n2 hc n1)]
        by_cases h1 : b < 0
        · rw [if_pos h1]; exact x_rt_i rfl
        · rw [if_neg h1, if_neg (fun z => hb ⟨Int32.not_lt.mp h1, z⟩)]; exact x_rt_i rfl
      · refine x_Ci_of (by rw [ml_150]; rfl) (T_150_0 (x_rd c_isCardM ?_))
        rw [if_neg (x_cardM' n3 hc n1)]
        refine x_rd c_in ?_
        rw [x_in01, if_pos (x_b_0.mpr (fun z => hb (by rw [decide_eq_true_eq] at z; exact z)))]
        exact x_rt_i rfl
    case pos =>
    obtain ⟨k, hk, rfl⟩ := x_01_n hb
    rcases (by omega : k = 0 ∨ k = 1) with rfl | rfl
    · refine x_Op_rd (v := nI (x_cls (fun c => x_lok (fun k => x_al (S 66) c k) c 0) (x_lok (fun k => x_al (S 66) c k) c 0))) H ?_ ?_
      · refine x_Ci_of (by rw [ml_80]; rfl) (T_80_0 (x_rd c_isCard ?_))
        rw [if_neg (x_cardC' n2 hc n1), if_neg (nI_pos (by omega)), if_pos hb.2, if_pos (show nI 0 = 0 from rfl)]
        refine x_rd (c_classOf n1 hc hLC) (x_rt_i ?_)
        have e1 : ∀ q, q < n → x_lok (fun k => x_al (S 66) k q) q 0 = x_lok (fun k => x_al (S 66) q k) q 0 := fun q hq => x_lok_c (N := q) (fun k hk => x_On_al p4 (by omega) hq) q 0 (by omega)
        rw [e1 c hc]
        have hle := x_lok_le (R := fun k => x_al (S 66) c k) c 0
        rw [x_cls_c _ (fun j hj => e1 j (by omega))]
      · refine x_Ci_of (by rw [ml_150]; rfl) (T_150_0 (x_rd c_isCardM ?_))
        rw [if_neg (x_cardM' n3 hc n1)]
        refine x_rd c_in ?_
        rw [x_in01, if_neg (x_b_ne (by rw [decide_eq_true_eq]; exact hb)), if_neg (show ¬ nI 0 = 1 by decide)]
        exact x_rd (c_likeOf n1 hc (fun _ _ => rfl)) (c_alikeM n1 hc (fun _ _ => rfl))
    · obtain ⟨m, m1, m2, m3, m4⟩ := x_On_c p4 hc
      refine x_Op_rd (v := nI (x_nwy (fun w => nI (x_lieN m w)) 8)) H ?_ ?_
      · refine x_Ci_of (by rw [ml_80]; rfl) (T_80_0 (x_rd c_isCard ?_))
        rw [if_neg (x_cardC' n2 hc n1), if_neg (nI_pos (by omega)), if_pos hb.2, if_neg (show ¬ nI 1 = 0 by decide)]
        exact x_rd (c_unlike (f := fun w => nI (x_lieN m w)) (by omega) m3) (x_rt_i rfl)
      · refine x_Ci_of (by rw [ml_150]; rfl) (T_150_0 (x_rd c_isCardM ?_))
        rw [if_neg (x_cardM' n3 hc n1)]
        refine x_rd c_in ?_
        rw [x_in01, if_neg (x_b_ne (by rw [decide_eq_true_eq]; exact hb)), if_pos (show nI 1 = 1 from rfl)]
        exact x_rd (c_waysOf (f := fun w => nI (x_lieN m w)) (by omega) m4) (x_rt_i rfl)
end FIT
