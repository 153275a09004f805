/-! NUMBERS -/
theorem nI_mul (a b : Nat) : nI a * nI b = nI (a * b) := by
  unfold nI
  exact (Int32.ofNat_mul a b).symm
theorem nI_sub {a b : Nat} (h : b ≤ a) : nI a - nI b = nI (a - b) := by
  have e : nI a = nI (a - b) + nI b := by rw [nI_add, Nat.sub_add_cancel h]
  rw [e, Int32.add_sub_cancel]
/-- an int that isn't below 0 is a number -/
theorem x_nat {a : Int32} (h : ¬ a < 0) : a = nI a.toNatClampNeg ∧ a.toNatClampNeg < 2 ^ 31 := by
  obtain ⟨j, hj, rfl⟩ := nI_of h
  rw [nI_clamp hj]
  exact ⟨rfl, hj⟩
theorem x_ib_n {k n : Nat} (h : k < n) (hn : n < 2 ^ 31) : x_ib (nI k) n := ⟨nI_pos (by omega), by rw [nI_clamp (by omega)]; exact h⟩
/-- between two bounds -/
theorem x_lt_nat {a : Int32} {n : Nat} (h0 : ¬ a < 0) (h1 : a < nI n) (hn : n < 2 ^ 31) : ∃ k, k < n ∧ a = nI k := by
  obtain ⟨j, hj, rfl⟩ := nI_of h0
  exact ⟨j, (nI_ltI hj hn).mp h1, rfl⟩
theorem x_le_nat {a : Int32} {n : Nat} (h0 : ¬ a < 0) (h1 : a ≤ nI n) (hn : n < 2 ^ 31) : ∃ k, k ≤ n ∧ a = nI k := by
  obtain ⟨j, hj, rfl⟩ := nI_of h0
  exact ⟨j, (nI_leI hj hn).mp h1, rfl⟩
theorem x_not_le {a b : Int32} : ¬ a ≤ b ↔ b < a := Int32.not_le
theorem x_not_lt {a b : Int32} : ¬ a < b ↔ b ≤ a := Int32.not_lt
theorem x_up_at (S : x_M) (p k : Nat) (v : Int32) : x_up S p k v p k = v := by simp [x_up]
theorem x_up_ne {S : x_M} {p k q j : Nat} {v : Int32} (h : ¬ (q = p ∧ j = k)) : x_up S p k v q j = S q j := by
  unfold x_up
  rw [if_neg h]
theorem x_up_pl {S : x_M} {p k q : Nat} {v : Int32} (h : q ≠ p) : x_up S p k v q = S q := by
  funext j
  unfold x_up
  rw [if_neg (fun z => h z.1)]
/-- all but some places stay -/
def x_ag (ps : List Nat) (S S' : x_M) : Prop := ∀ p, p ∉ ps → S' p = S p
theorem x_ag.rf {ps : List Nat} {S : x_M} : x_ag ps S S := fun _ _ => rfl
theorem x_ag.tr {ps qs rs : List Nat} {S S1 S2 : x_M} (h1 : x_ag ps S S1) (h2 : x_ag qs S1 S2) (hp : ∀ p ∈ ps, p ∈ rs) (hq : ∀ p ∈ qs, p ∈ rs) : x_ag rs S S2 := fun p hpn => (h2 p (fun z => hpn (hq p z))).trans (h1 p (fun z => hpn (hp p z)))
theorem x_ag.up {ps : List Nat} {S : x_M} {p k : Nat} {v : Int32} (h : p ∈ ps) : x_ag ps S (x_up S p k v) := fun q hq => x_up_pl (fun z => hq (by rw [z]; exact h))
theorem x_ag.cp {ps : List Nat} {S : x_M} {p sp q dp n : Nat} (h : q ∈ ps) : x_ag ps S (x_cp S p sp q dp n) := fun r hr => by
  funext j
  unfold x_cp
  rw [if_neg (fun z => hr (by rw [z.1]; exact h))]
/-! lcmp -/
theorem x_lc_lt {x y : Int64} : lg_cmp x y < 0 ↔ x < y := by
  unfold lg_cmp
  by_cases h : x > y
  · rw [if_pos h]
    exact ⟨fun z => absurd z (by decide), fun z => absurd z (lg_lt_not h)⟩
  · rw [if_neg h]
    by_cases h2 : x = y
    · rw [if_pos h2]
      subst h2
      exact ⟨fun z => absurd z (by decide), fun z => absurd z h⟩
    · rw [if_neg h2]
      refine ⟨fun _ => ?_, fun _ => by decide⟩
      have h3 := Int64.not_lt.mp h
      exact Int64.lt_of_le_of_ne h3 h2
theorem x_lc_gt {x y : Int64} : 0 < lg_cmp x y ↔ y < x := by
  unfold lg_cmp
  by_cases h : x > y
  · rw [if_pos h]
    exact ⟨fun _ => h, fun _ => by decide⟩
  · rw [if_neg h]
    by_cases h2 : x = y
    · rw [if_pos h2]
      exact ⟨fun z => absurd z (by decide), fun z => absurd z h⟩
    · rw [if_neg h2]
      exact ⟨fun z => absurd z (by decide), fun z => absurd z h⟩
theorem x_i64_le {a b : Int32} : a.toInt64 ≤ b.toInt64 ↔ a ≤ b := by
  rw [Int64.le_iff_toInt_le, Int32.le_iff_toInt_le, Int32.toInt_toInt64, Int32.toInt_toInt64]
theorem x_i64_lt {a b : Int32} : a.toInt64 < b.toInt64 ↔ a < b := by
  rw [Int64.lt_iff_toInt_lt, Int32.lt_iff_toInt_lt, Int32.toInt_toInt64, Int32.toInt_toInt64]
