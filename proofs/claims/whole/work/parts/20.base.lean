/-! MEMORY: all shapes are fixed behind the two constructors: tag, length, references by place; the rest is a function of ints -/
abbrev x_M : Type := Nat → Nat → Int32
def x_tgs : List Nat := [100, 100, 100, 100, 100, 100, 100, 100, 5, 11, 3, 10, 0, 10, 10, 10, 10, 0, 10, 10, 10, 10, 12, 1, 10, 10, 10, 10, 4, 10, 2, 10, 2, 10, 2, 10, 2, 10, 2, 10, 2, 10, 2, 10, 2, 10, 0, 10, 10, 10, 10, 0, 10, 10, 10, 10, 6, 10, 10, 10, 10, 10, 10, 10, 10, 10, 10, 10, 10, 10, 10, 10, 10, 10, 10]
def x_lns : List Nat := [0, 0, 0, 0, 0, 0, 0, 0, 10, 8, 6, 400, 10, 9, 112, 2, 2, 10, 9, 112, 2, 2, 2, 5, 4, 2, 16384, 3, 2, 16, 4, 40, 4, 40, 4, 40, 4, 40, 4, 40, 4, 40, 4, 40, 4, 40, 10, 9, 112, 2, 2, 10, 9, 112, 2, 2, 27, 99, 400, 8, 8, 320, 16, 9, 14, 14, 112, 3, 6, 6, 12, 6, 6, 6, 3]
def x_rfs : List (List (Option Nat)) := [[], [], [], [], [], [], [], [], [some 9, some 10, some 12, some 17, some 22, some 23, some 27, some 28], [some 30, some 32, some 34, some 36, some 38, some 40, some 42, some 44], [some 11], [], [some 13, some 14, some 15, some 16], [], [], [], [], [some 18, some 19, some 20, some 21], [], [], [], [], [some 46, some 51], [some 24, some 25, some 26], [], [], [], [], [some 29], [], [some 31], [], [some 33], [], [some 35], [], [some 37], [], [some 39], [], [some 41], [], [some 43], [], [some 45], [], [some 47, some 48, some 49, some 50], [], [], [], [], [some 52, some 53, some 54, some 55], [], [], [], [], [some 57, some 58, none, none, none, some 59, some 60, some 61, some 62, none, none, none, none, some 63, some 64, some 65, none, some 66, some 67, some 68, some 69, some 70, some 71, some 72, some 73, none, some 74], [], [], [], [], [], [], [], [], [], [], [], [], [], [], [], [], [], []]
def x_tg (p : Nat) : Nat := x_tgs.getD p 99
def x_ln (p : Nat) : Nat := x_lns.getD p 0
def x_rf (p j : Nat) : Option Nat := (x_rfs.getD p []).getD j none
def x_rr (p j : Nat) : Nat := (x_rf p j).getD 0
/-- of a reference field of a class: the tag and the length of what it refers to -/
def x_fss : List (List (Nat × Nat)) := [[(10, 9), (10, 112), (10, 2), (10, 2)], [(10, 4), (10, 2), (10, 16384)], [(10, 40)], [(10, 400)], [(10, 16)], [(11, 8), (3, 6), (0, 10), (0, 10), (12, 2), (1, 5), (10, 3), (4, 2)], [(10, 99), (10, 400), (0, 0), (0, 0), (0, 0), (10, 8), (10, 8), (10, 320), (10, 16), (0, 0), (0, 0), (0, 0), (0, 0), (10, 9), (10, 14), (10, 14), (0, 0), (10, 112), (10, 3), (10, 6), (10, 6), (10, 12), (10, 6), (10, 6), (10, 6), (0, 0), (10, 3)]]
def x_fs (c j : Nat) : Nat × Nat := (x_fss.getD c []).getD j (0, 0)
def x_isr (c j : Nat) : Bool := match x_ty c j with
  | .array _ => true
  | .object _ => true
  | _ => false
def x_vl (S : x_M) (p j : Nat) : Value := match x_rf p j with
  | some r => .ref r
  | none => .int (S p j)
def x_ce (S : x_M) (p : Nat) : x_C := (x_tg p, (List.range (x_ln p)).map (x_vl S p))
def x_hp (xs : List Int32) (S : x_M) : x_H := x_old xs ++ (List.range 67).map (fun i => x_ce S (8 + i))
def x_up (S : x_M) (p k : Nat) (v : Int32) : x_M := fun q j => if q = p ∧ j = k then v else S q j
/-- n ints of p from sp on come to q from dp on -/
def x_cp (S : x_M) (p sp q dp n : Nat) : x_M := fun r j => if r = q ∧ dp ≤ j ∧ j < dp + n then S p (sp + (j - dp)) else S r j
theorem x_sh1 : ((List.range 75).all fun p => if p < 8 then decide (x_tg p = 100) else (decide (x_tg p < 7) || decide (x_tg p = 10) || decide (x_tg p = 11) || decide (x_tg p = 12)) && (if x_tg p < 7 then decide (x_ln p = x_N (x_tg p)) && ((List.range (x_ln p)).all fun j => (x_rf p j).isSome == x_isr (x_tg p) j && (!(x_isr (x_tg p) j) || (decide (x_tg (x_rr p j) = (x_fs (x_tg p) j).1) && decide (x_ln (x_rr p j) = (x_fs (x_tg p) j).2)))) else if x_tg p = 10 then decide (x_rfs.getD p [] = []) else (List.range (x_ln p)).all fun j => (x_rf p j).isSome && decide (x_tg (x_rr p j) = if x_tg p = 11 then 2 else 0))) = true := by decide +kernel
theorem x_tg_lt {p c : Nat} (h : x_tg p = c) (hc : c < 99) : 8 ≤ p ∧ p < 75 := by
  have h75 : p < 75 := by
    by_cases hp : p < 75
    · exact hp
    · exfalso
      have h2 : x_tg p = 99 := by
        unfold x_tg
        rw [List.getD_eq_getElem?_getD, List.getElem?_eq_none (by show 75 ≤ p; omega)]
        rfl
      omega
  refine ⟨?_, h75⟩
  by_cases hp : 8 ≤ p
  · exact hp
  · exfalso
    have h1 := List.all_eq_true.mp x_sh1 p (List.mem_range.mpr h75)
    rw [if_pos (by omega)] at h1
    simp only [decide_eq_true_eq] at h1
    omega
theorem x_tg_all {p c : Nat} (h : x_tg p = c) (hc : c < 99) : (if c < 7 then decide (x_ln p = x_N c) && ((List.range (x_ln p)).all fun j => (x_rf p j).isSome == x_isr c j && (!(x_isr c j) || (decide (x_tg (x_rr p j) = (x_fs c j).1) && decide (x_ln (x_rr p j) = (x_fs c j).2)))) else if c = 10 then decide (x_rfs.getD p [] = []) else (List.range (x_ln p)).all fun j => (x_rf p j).isSome && decide (x_tg (x_rr p j) = if c = 11 then 2 else 0)) = true := by
  obtain ⟨h8, h75⟩ := x_tg_lt h hc
  have h1 := List.all_eq_true.mp x_sh1 p (List.mem_range.mpr h75)
  rw [if_neg (by omega), h, Bool.and_eq_true] at h1
  exact h1.2
theorem x_tg_n {p c : Nat} (h : x_tg p = c) (hc : c < 7) : x_ln p = x_N c := by
  have h1 := x_tg_all h (by omega)
  rw [if_pos hc] at h1
  simp only [Bool.and_eq_true, decide_eq_true_eq] at h1
  exact h1.1
theorem x_tg_i {p c j : Nat} (h : x_tg p = c) (hc : c < 7) (hj : j < x_N c) (hi : x_isr c j = false) : x_rf p j = none := by
  have h0 := x_tg_n h hc
  have h1 := x_tg_all h (by omega)
  rw [if_pos hc] at h1
  simp only [Bool.and_eq_true] at h1
  have h2 := List.all_eq_true.mp h1.2 j (List.mem_range.mpr (by omega))
  simp only [Bool.and_eq_true, hi, beq_iff_eq] at h2
  cases hr : x_rf p j with
  | none => rfl
  | some r => rw [hr] at h2; exact absurd h2.1 (by simp)
theorem x_tg_r {p c j : Nat} (h : x_tg p = c) (hc : c < 7) (hj : j < x_N c) (hi : x_isr c j = true) : x_rf p j = some (x_rr p j) ∧ x_tg (x_rr p j) = (x_fs c j).1 ∧ x_ln (x_rr p j) = (x_fs c j).2 := by
  have h0 := x_tg_n h hc
  have h1 := x_tg_all h (by omega)
  rw [if_pos hc] at h1
  simp only [Bool.and_eq_true] at h1
  have h2 := List.all_eq_true.mp h1.2 j (List.mem_range.mpr (by omega))
  simp only [Bool.and_eq_true, hi, beq_iff_eq, Bool.not_true, Bool.false_or, decide_eq_true_eq] at h2
  refine ⟨?_, h2.2⟩
  unfold x_rr
  cases hr : x_rf p j with
  | none => rw [hr] at h2; exact absurd h2.1 (by simp)
  | some r => rfl
theorem x_tg_a {p j : Nat} (h : x_tg p = 10) : x_rf p j = none := by
  have h1 := x_tg_all h (by omega)
  simp only [show ¬ (10 : Nat) < 7 by omega, if_false, if_true, decide_eq_true_eq] at h1
  unfold x_rf
  rw [h1]
  rfl
theorem x_tg_q {p c j : Nat} (h : x_tg p = c) (hc : c = 11 ∨ c = 12) (hj : j < x_ln p) : x_rf p j = some (x_rr p j) ∧ x_tg (x_rr p j) = if c = 11 then 2 else 0 := by
  have h1 := x_tg_all h (by omega)
  rw [if_neg (by omega), if_neg (by omega)] at h1
  have h2 := List.all_eq_true.mp h1 j (List.mem_range.mpr hj)
  simp only [Bool.and_eq_true, decide_eq_true_eq] at h2
  refine ⟨?_, h2.2⟩
  unfold x_rr
  cases hr : x_rf p j with
  | none => rw [hr] at h2; exact absurd h2.1 (by simp)
  | some r => rfl
theorem x_hp_at {xs : List Int32} {S : x_M} {p : Nat} (h8 : 8 ≤ p) (h75 : p < 75) : (x_hp xs S)[p]? = some (x_ce S p) := by
  unfold x_hp
  have hl : (x_old xs).length = 8 := rfl
  rw [List.getElem?_append_right (by omega), List.getElem?_map, List.getElem?_range (by omega), hl]
  show some (x_ce S (8 + (p - 8))) = _
  rw [show 8 + (p - 8) = p by omega]
theorem x_hp_tg {xs : List Int32} {S : x_M} {p c : Nat} (h : x_tg p = c) (hc : c < 99) : (x_hp xs S)[p]? = some (c, (List.range (x_ln p)).map (x_vl S p)) := by
  obtain ⟨h8, h75⟩ := x_tg_lt h hc
  rw [x_hp_at h8 h75]
  unfold x_ce
  rw [h]
theorem x_hp_len {xs : List Int32} {S : x_M} : (x_hp xs S).length = 75 := by
  unfold x_hp
  rw [List.length_append, List.length_map, List.length_range]
  rfl
theorem x_hp_ext {xs : List Int32} {S S' : x_M} {p : Nat} {c : x_C} (h8 : 8 ≤ p) (h75 : p < 75) (hc : c = x_ce S' p) (hS : ∀ q, q ≠ p → S' q = S q) : (x_hp xs S).set p c = x_hp xs S' := by
  apply List.ext_getElem?
  intro i
  by_cases hi : i = p
  · subst hi
    rw [List.getElem?_set_self (by rw [x_hp_len]; exact h75), x_hp_at h8 h75, hc]
  · rw [List.getElem?_set_ne (Ne.symm hi)]
    by_cases hi8 : 8 ≤ i
    · by_cases hi75 : i < 75
      · rw [x_hp_at hi8 hi75, x_hp_at hi8 hi75]
        unfold x_ce x_vl
        rw [hS i hi]
      · rw [List.getElem?_eq_none (by rw [x_hp_len]; omega), List.getElem?_eq_none (by rw [x_hp_len]; omega)]
    · unfold x_hp
      have hl : (x_old xs).length = 8 := rfl
      rw [List.getElem?_append_left (by omega), List.getElem?_append_left (by omega)]
theorem x_hp_set {xs : List Int32} {S : x_M} {p c k : Nat} {v : Int32} (h : x_tg p = c) (hc : c < 99) (hk : k < x_ln p) (hr : x_rf p k = none) : (x_hp xs S).set p (c, ((List.range (x_ln p)).map (x_vl S p)).set k (.int v)) = x_hp xs (x_up S p k v) := by
  obtain ⟨h8, h75⟩ := x_tg_lt h hc
  refine x_hp_ext h8 h75 ?_ (fun q hq => ?_)
  · unfold x_ce
    rw [h]
    congr 1
    apply List.ext_getElem?
    intro j
    by_cases hj : j = k
    · subst hj
      rw [List.getElem?_set_self (by simpa using hk), List.getElem?_map, List.getElem?_range hk]
      show _ = some (x_vl _ p j)
      unfold x_vl
      rw [hr]
      show _ = some (Value.int (if p = p ∧ j = j then v else _))
      rw [if_pos ⟨rfl, rfl⟩]
    · rw [List.getElem?_set_ne (Ne.symm hj), List.getElem?_map, List.getElem?_map]
      by_cases hjl : j < x_ln p
      · rw [List.getElem?_range hjl]
        show some (x_vl _ p j) = some (x_vl _ p j)
        unfold x_vl x_up
        rw [if_neg (fun z => hj z.2)]
      · rw [List.getElem?_eq_none (by simp; omega)]
        rfl
  · funext j
    show (if q = p ∧ j = k then v else S q j) = _
    rw [if_neg (fun z => hq z.1)]
/-! RUNS, upward in fuel and depth -/
theorem x_run_call {n d y pc nx z : Nat} {i : Instr} {L K : List Value} {h h1 : x_H} {r1 : Option Value} {w : Option Value × x_H} (hf : x_fe y pc = some (i, nx)) (hc : x_cal i = some z) (ho : x_okc i z K h = true) (h1r : x_run n d z 0 (x_loc (x_ml z) (K.take (x_na z)).reverse) [] h = some (r1, h1)) (h2r : x_run n (d + 1) y nx L (r1.toList ++ K.drop (x_na z)) h1 = some w) : x_run (n + 1) (d + 1) y pc L K h = some w := by
  rw [x_run_succ, hf]
  simp only [hc, ho, if_true, h1r, h2r]
theorem x_run_step {n d y pc nx : Nat} {i : Instr} {L K : List Value} {h : x_H} {pc' : Nat} {L' K' : List Value} {h' : x_H} {w : Option Value × x_H} (hf : x_fe y pc = some (i, nx)) (hc : x_cal i = none) (hs : x_step (x_kd y == 2) i pc nx L K h = some (pc', L', K', h')) (h2r : x_run n d y pc' L' K' h' = some w) : x_run (n + 1) d y pc L K h = some w := by
  rw [x_run_succ, hf]
  simp only [hc]
  split
  · cases hs
  · cases hs
  · rw [hs]
    exact h2r
theorem x_run_up : ∀ (n d y pc : Nat) (L K : List Value) (h : x_H) (w : Option Value × x_H), x_run n d y pc L K h = some w → ∀ n' d', n ≤ n' → d ≤ d' → x_run n' d' y pc L K h = some w := by
  intro n
  induction n with
  | zero => intro d y pc L K h w hr; cases hr
  | succ n ih =>
    intro d y pc L K h w hr n' d' hn hd
    obtain ⟨r, hf⟩ := w
    cases n' with
    | zero => omega
    | succ n' =>
      obtain ⟨i, nx, hfe, g | g | g | g⟩ := x_run_w hr
      · obtain ⟨z, d1, r1, h1, g1, rfl, g3, g4, g5⟩ := g
        cases d' with
        | zero => omega
        | succ d' => exact x_run_call hfe g1 g3 (ih _ _ _ _ _ _ _ g4 n' d' (by omega) (by omega)) (ih _ _ _ _ _ _ _ g5 n' (d' + 1) (by omega) (by omega))
      · obtain ⟨v, ty, rfl, rfl, g3, g4, rfl, rfl⟩ := g
        rw [x_run_succ, hfe]
        simp only [x_cal, g3, g4, if_true]
      · obtain ⟨rfl, rfl, g3, rfl, rfl⟩ := g
        rw [x_run_succ, hfe]
        simp only [x_cal, g3]
      · obtain ⟨pc', L', K', h', g1, g2, g3⟩ := g
        exact x_run_step hfe g1 g2 (ih _ _ _ _ _ _ _ g3 n' d' (by omega) hd)
/-! E: the run from here comes to an end with Q -/
def x_E (xs : List Int32) (d y pc : Nat) (L K : List Value) (S : x_M) (Q : Option Value → x_M → Prop) : Prop := ∃ (n : Nat) (r : Option Value) (S' : x_M), x_run n d y pc L K (x_hp xs S) = some (r, x_hp xs S') ∧ Q r S'
def x_Ci (xs : List Int32) (d z : Nat) (A : List Value) (S : x_M) (P : Int32 → x_M → Prop) : Prop := x_E xs d z 0 (x_loc (x_ml z) A) [] S (fun r S' => ∃ v : Int32, r = some (.int v) ∧ P v S')
def x_Cv (xs : List Int32) (d z : Nat) (A : List Value) (S : x_M) (P : x_M → Prop) : Prop := x_E xs d z 0 (x_loc (x_ml z) A) [] S (fun r S' => r = none ∧ P S')
section XE
variable {xs : List Int32} {d y pc nx : Nat} {L K : List Value} {S : x_M} {Q : Option Value → x_M → Prop}
theorem x_E_weak {Q' : Option Value → x_M → Prop} (h : x_E xs d y pc L K S Q) (hq : ∀ r S', Q r S' → Q' r S') : x_E xs d y pc L K S Q' := by
  obtain ⟨n, r, S', h1, h2⟩ := h
  exact ⟨n, r, S', h1, hq _ _ h2⟩
theorem x_E_step {i : Instr} {pc' : Nat} {L' K' : List Value} {S' : x_M} (hf : x_fe y pc = some (i, nx)) (hc : x_cal i = none) (hs : x_step (x_kd y == 2) i pc nx L K (x_hp xs S) = some (pc', L', K', x_hp xs S')) (k : x_E xs d y pc' L' K' S' Q) : x_E xs d y pc L K S Q := by
  obtain ⟨n, r, S2, h1, h2⟩ := k
  exact ⟨n + 1, r, S2, x_run_step hf hc hs h1, h2⟩
theorem e_iconst {n : Int} {c : Int32} (hf : x_fe y pc = some (.iconst n, nx)) (hc : Int32.ofInt n = c) (k : x_E xs d y nx L (.int c :: K) S Q) : x_E xs d y pc L K S Q := x_E_step hf rfl (by rw [← hc]; rfl) k
theorem e_lconst {n : Nat} {c : Int64} (hf : x_fe y pc = some (.ldc2_w n, nx)) (hc : Int64.ofNat n = c) (k : x_E xs d y nx L (.long c :: K) S Q) : x_E xs d y pc L K S Q := x_E_step hf rfl (by rw [← hc]; rfl) k
theorem e_ldc {p : Nat} (hf : x_fe y pc = some (.ldc p, nx)) (k : x_E xs d y nx L (.ref p :: K) S Q) : x_E xs d y pc L K S Q := x_E_step hf rfl rfl k
theorem e_iload {j : Nat} {v : Int32} (hf : x_fe y pc = some (.iload j, nx)) (hl : L[j]? = some (.int v)) (k : x_E xs d y nx L (.int v :: K) S Q) : x_E xs d y pc L K S Q := x_E_step hf rfl (by simp only [x_step, hl]) k
theorem e_lload {j : Nat} {v : Int64} (hf : x_fe y pc = some (.lload j, nx)) (hl : L[j]? = some (.long v)) (k : x_E xs d y nx L (.long v :: K) S Q) : x_E xs d y pc L K S Q := x_E_step hf rfl (by simp only [x_step, hl]) k
theorem e_aload {j p : Nat} (hf : x_fe y pc = some (.aload j, nx)) (hl : L[j]? = some (.ref p)) (hp : p ≠ 7) (k : x_E xs d y nx L (.ref p :: K) S Q) : x_E xs d y pc L K S Q := x_E_step hf rfl (by simp only [x_step, hl, if_neg hp]) k
theorem e_istore {j : Nat} {v : Int32} {L' : List Value} (hf : x_fe y pc = some (.istore j, nx)) (hj : j < L.length) (hl : x_st1 L j (.int v) = L') (k : x_E xs d y nx L' K S Q) : x_E xs d y pc L (.int v :: K) S Q := x_E_step hf rfl (by simp only [x_step, if_pos hj, hl]) k
theorem e_astore {j p : Nat} {L' : List Value} (hf : x_fe y pc = some (.astore j, nx)) (hj : j < L.length) (hp : p ≠ 7) (hl : x_st1 L j (.ref p) = L') (k : x_E xs d y nx L' K S Q) : x_E xs d y pc L (.ref p :: K) S Q := x_E_step hf rfl (by simp only [x_step, if_pos (And.intro hj hp), hl]) k
theorem e_lstore {j : Nat} {v : Int64} {L' : List Value} (hf : x_fe y pc = some (.lstore j, nx)) (hj : j + 1 < L.length) (hl : x_st2 L j (.long v) = L') (k : x_E xs d y nx L' K S Q) : x_E xs d y pc L (.long v :: K) S Q := x_E_step hf rfl (by simp only [x_step, if_pos hj, hl]) k
theorem e_iinc {j : Nat} {n : Int} {v w : Int32} {L' : List Value} (hf : x_fe y pc = some (.iinc j n, nx)) (h0 : L[j]? = some (.int v)) (hw : v + Int32.ofInt n = w) (hl : x_st1 L j (.int w) = L') (k : x_E xs d y nx L' K S Q) : x_E xs d y pc L K S Q := x_E_step hf rfl (by simp only [x_step, h0, hw, hl]) k
theorem e_bi {i : Instr} {a b v : Int32} {f : Int32 → Int32 → Option Int32} (hf : x_fe y pc = some (i, nx)) (hc : x_cal i = none) (hi : ∀ (S0 : List Value) (h : x_H), x_step (x_kd y == 2) i pc nx L S0 h = x_bi S0 f nx L h) (hv : f a b = some v) (k : x_E xs d y nx L (.int v :: K) S Q) : x_E xs d y pc L (.int b :: .int a :: K) S Q := x_E_step hf hc (by rw [hi]; simp only [x_bi, hv]) k
theorem e_iadd {a b : Int32} (hf : x_fe y pc = some (.iadd, nx)) (k : x_E xs d y nx L (.int (a + b) :: K) S Q) : x_E xs d y pc L (.int b :: .int a :: K) S Q := x_E_step hf rfl rfl k
theorem e_isub {a b : Int32} (hf : x_fe y pc = some (.isub, nx)) (k : x_E xs d y nx L (.int (a - b) :: K) S Q) : x_E xs d y pc L (.int b :: .int a :: K) S Q := x_E_step hf rfl rfl k
theorem e_imul {a b : Int32} (hf : x_fe y pc = some (.imul, nx)) (k : x_E xs d y nx L (.int (a * b) :: K) S Q) : x_E xs d y pc L (.int b :: .int a :: K) S Q := x_E_step hf rfl rfl k
theorem e_idiv {a b : Int32} (hf : x_fe y pc = some (.idiv, nx)) (hb : ¬ b = 0) (k : x_E xs d y nx L (.int (a / b) :: K) S Q) : x_E xs d y pc L (.int b :: .int a :: K) S Q := x_E_step hf rfl (by simp only [x_step, x_bi, if_neg hb]) k
theorem e_irem {a b : Int32} (hf : x_fe y pc = some (.irem, nx)) (hb : ¬ b = 0) (k : x_E xs d y nx L (.int (a - a / b * b) :: K) S Q) : x_E xs d y pc L (.int b :: .int a :: K) S Q := x_E_step hf rfl (by simp only [x_step, x_bi, if_neg hb]) k
theorem e_iand {a b : Int32} (hf : x_fe y pc = some (.iand, nx)) (k : x_E xs d y nx L (.int (a &&& b) :: K) S Q) : x_E xs d y pc L (.int b :: .int a :: K) S Q := x_E_step hf rfl rfl k
theorem e_ior {a b : Int32} (hf : x_fe y pc = some (.ior, nx)) (k : x_E xs d y nx L (.int (a ||| b) :: K) S Q) : x_E xs d y pc L (.int b :: .int a :: K) S Q := x_E_step hf rfl rfl k
theorem e_ixor {a b : Int32} (hf : x_fe y pc = some (.ixor, nx)) (k : x_E xs d y nx L (.int (a ^^^ b) :: K) S Q) : x_E xs d y pc L (.int b :: .int a :: K) S Q := x_E_step hf rfl rfl k
theorem e_ishl {a b : Int32} (hf : x_fe y pc = some (.ishl, nx)) (k : x_E xs d y nx L (.int (a <<< (b &&& 31)) :: K) S Q) : x_E xs d y pc L (.int b :: .int a :: K) S Q := x_E_step hf rfl rfl k
theorem e_ishr {a b : Int32} (hf : x_fe y pc = some (.ishr, nx)) (k : x_E xs d y nx L (.int (a >>> (b &&& 31)) :: K) S Q) : x_E xs d y pc L (.int b :: .int a :: K) S Q := x_E_step hf rfl rfl k
theorem e_iushr {a b : Int32} (hf : x_fe y pc = some (.iushr, nx)) (k : x_E xs d y nx L (.int (a.toUInt32 >>> (b.toUInt32 &&& Int32.toUInt32 31)).toInt32 :: K) S Q) : x_E xs d y pc L (.int b :: .int a :: K) S Q := x_E_step hf rfl rfl k
theorem e_ineg {a : Int32} (hf : x_fe y pc = some (.ineg, nx)) (k : x_E xs d y nx L (.int (-a) :: K) S Q) : x_E xs d y pc L (.int a :: K) S Q := x_E_step hf rfl rfl k
theorem e_i2b {a : Int32} (hf : x_fe y pc = some (.i2b, nx)) (k : x_E xs d y nx L (.int a.toInt8.toInt32 :: K) S Q) : x_E xs d y pc L (.int a :: K) S Q := x_E_step hf rfl rfl k
theorem e_i2s {a : Int32} (hf : x_fe y pc = some (.i2s, nx)) (k : x_E xs d y nx L (.int a.toInt16.toInt32 :: K) S Q) : x_E xs d y pc L (.int a :: K) S Q := x_E_step hf rfl rfl k
theorem e_i2c {a : Int32} (hf : x_fe y pc = some (.i2c, nx)) (k : x_E xs d y nx L (.int (a.toUInt32 % 65536).toInt32 :: K) S Q) : x_E xs d y pc L (.int a :: K) S Q := x_E_step hf rfl rfl k
theorem e_ladd {a b : Int64} (hf : x_fe y pc = some (.ladd, nx)) (k : x_E xs d y nx L (.long (a + b) :: K) S Q) : x_E xs d y pc L (.long b :: .long a :: K) S Q := x_E_step hf rfl rfl k
theorem e_lmul {a b : Int64} (hf : x_fe y pc = some (.lmul, nx)) (k : x_E xs d y nx L (.long (a * b) :: K) S Q) : x_E xs d y pc L (.long b :: .long a :: K) S Q := x_E_step hf rfl rfl k
theorem e_land {a b : Int64} (hf : x_fe y pc = some (.land, nx)) (k : x_E xs d y nx L (.long (a &&& b) :: K) S Q) : x_E xs d y pc L (.long b :: .long a :: K) S Q := x_E_step hf rfl rfl k
theorem e_lor {a b : Int64} (hf : x_fe y pc = some (.lor, nx)) (k : x_E xs d y nx L (.long (a ||| b) :: K) S Q) : x_E xs d y pc L (.long b :: .long a :: K) S Q := x_E_step hf rfl rfl k
theorem e_lrem {a b : Int64} (hf : x_fe y pc = some (.lrem, nx)) (hb : ¬ b = 0) (k : x_E xs d y nx L (.long (a - a / b * b) :: K) S Q) : x_E xs d y pc L (.long b :: .long a :: K) S Q := x_E_step hf rfl (by simp only [x_step, x_bl, if_neg hb]) k
theorem e_lcmp {a b : Int64} (hf : x_fe y pc = some (.lcmp, nx)) (k : x_E xs d y nx L (.int (lg_cmp a b) :: K) S Q) : x_E xs d y pc L (.long b :: .long a :: K) S Q := x_E_step hf rfl rfl k
theorem e_lshl {a : Int64} {b : Int32} (hf : x_fe y pc = some (.lshl, nx)) (k : x_E xs d y nx L (.long (a <<< (b.toInt64 &&& 63)) :: K) S Q) : x_E xs d y pc L (.int b :: .long a :: K) S Q := x_E_step hf rfl rfl k
theorem e_lshr {a : Int64} {b : Int32} (hf : x_fe y pc = some (.lshr, nx)) (k : x_E xs d y nx L (.long (a >>> (b.toInt64 &&& 63)) :: K) S Q) : x_E xs d y pc L (.int b :: .long a :: K) S Q := x_E_step hf rfl rfl k
theorem e_i2l {a : Int32} (hf : x_fe y pc = some (.i2l, nx)) (k : x_E xs d y nx L (.long a.toInt64 :: K) S Q) : x_E xs d y pc L (.int a :: K) S Q := x_E_step hf rfl rfl k
theorem e_l2i {a : Int64} (hf : x_fe y pc = some (.l2i, nx)) (k : x_E xs d y nx L (.int a.toInt32 :: K) S Q) : x_E xs d y pc L (.long a :: K) S Q := x_E_step hf rfl rfl k
theorem e_dup {v : Value} (hf : x_fe y pc = some (.dup, nx)) (hv : v.category = 1) (k : x_E xs d y nx L (v :: v :: K) S Q) : x_E xs d y pc L (v :: K) S Q := x_E_step hf rfl (by simp only [x_step, if_pos hv]) k
theorem e_pop {v : Value} (hf : x_fe y pc = some (.pop, nx)) (hv : v.category = 1) (k : x_E xs d y nx L K S Q) : x_E xs d y pc L (v :: K) S Q := x_E_step hf rfl (by simp only [x_step, if_pos hv]) k
theorem e_dup2 {v w : Value} (hf : x_fe y pc = some (.dup2, nx)) (hv : v.category = 1 ∧ w.category = 1) (k : x_E xs d y nx L (v :: w :: v :: w :: K) S Q) : x_E xs d y pc L (v :: w :: K) S Q := x_E_step hf rfl (by simp only [x_step, if_pos hv]) k
theorem e_goto {t : Nat} (hf : x_fe y pc = some (.goto (Int.ofNat t), nx)) (k : x_E xs d y t L K S Q) : x_E xs d y pc L K S Q := x_E_step hf rfl rfl k
theorem e_if {q : ClassFile.Cond} {t : Nat} {a : Int32} (hf : x_fe y pc = some (.ifCond q (Int.ofNat t), nx)) (kt : x_cc q a 0 = true → x_E xs d y t L K S Q) (kf : ¬ x_cc q a 0 = true → x_E xs d y nx L K S Q) : x_E xs d y pc L (.int a :: K) S Q := by
  by_cases hc : x_cc q a 0 = true
  · exact x_E_step hf rfl (by simp only [x_step, if_pos hc]; rfl) (kt hc)
  · exact x_E_step hf rfl (by simp only [x_step, if_neg hc]) (kf hc)
theorem e_icmp {q : ClassFile.Cond} {t : Nat} {a b : Int32} (hf : x_fe y pc = some (.if_icmp q (Int.ofNat t), nx)) (kt : x_cc q a b = true → x_E xs d y t L K S Q) (kf : ¬ x_cc q a b = true → x_E xs d y nx L K S Q) : x_E xs d y pc L (.int b :: .int a :: K) S Q := by
  by_cases hc : x_cc q a b = true
  · exact x_E_step hf rfl (by simp only [x_step, if_pos hc]; rfl) (kt hc)
  · exact x_E_step hf rfl (by simp only [x_step, if_neg hc]) (kf hc)
theorem x_vl_i {p j : Nat} (h : x_rf p j = none) : x_vl S p j = .int (S p j) := by
  unfold x_vl
  rw [h]
theorem x_vl_r {p j r : Nat} (h : x_rf p j = some r) : x_vl S p j = .ref r := by
  unfold x_vl
  rw [h]
def x_ib (i : Int32) (n : Nat) : Prop := ¬ i < 0 ∧ i.toNatClampNeg < n
theorem e_gf {e c j p : Nat} (hf : x_fe y pc = some (.getfield e, nx)) (he : e / 32 = c ∧ e % 32 = j) (hc : c < 7 ∧ j < x_N c ∧ x_isr c j = false) (ht : x_tg p = c) (k : x_E xs d y nx L (.int (S p j) :: K) S Q) : x_E xs d y pc L (.ref p :: K) S Q := by
  refine x_E_step hf rfl ?_ k
  have h1 := x_tg_n ht hc.1
  have h2 := x_tg_i ht hc.1 hc.2.1 hc.2.2
  simp only [x_step, x_hp_tg ht (by omega), he.1, he.2, if_true]
  rw [List.getElem?_map, List.getElem?_range (by omega)]
  simp only [Option.map_some, x_vl_i h2]
theorem e_gr {e c j p r : Nat} (hf : x_fe y pc = some (.getfield e, nx)) (he : e / 32 = c ∧ e % 32 = j) (hc : c < 7 ∧ j < x_N c ∧ x_isr c j = true) (ht : x_tg p = c) (hr : x_rr p j = r) (k : x_E xs d y nx L (.ref r :: K) S Q) : x_E xs d y pc L (.ref p :: K) S Q := by
  refine x_E_step hf rfl ?_ k
  have h1 := x_tg_n ht hc.1
  have h2 := (x_tg_r ht hc.1 hc.2.1 hc.2.2).1
  simp only [x_step, x_hp_tg ht (by omega), he.1, he.2, if_true]
  rw [List.getElem?_map, List.getElem?_range (by omega)]
  simp only [Option.map_some, x_vl_r h2, hr]
theorem e_pf {e c j p : Nat} {v : Int32} (hf : x_fe y pc = some (.putfield e, nx)) (he : e / 32 = c ∧ e % 32 = j) (hc : c < 7 ∧ j < x_N c ∧ x_isr c j = false) (ht : x_tg p = c) (hv : x_fit e (.int v) = true) (k : x_E xs d y nx L K (x_up S p j v) Q) : x_E xs d y pc L (.int v :: .ref p :: K) S Q := by
  refine x_E_step hf rfl ?_ k
  have h1 := x_tg_n ht hc.1
  have h2 := x_tg_i ht hc.1 hc.2.1 hc.2.2
  have h3 := (x_tg_lt ht (by omega)).1
  simp only [x_step, x_hp_tg ht (by omega), he.1, he.2]
  rw [if_pos ⟨by trivial, h3, by simp; omega, hv⟩, x_hp_set ht (by omega) (by omega) h2]
theorem e_ia {p n : Nat} {i : Int32} (hf : x_fe y pc = some (.iaload, nx)) (ht : x_tg p = 10) (hn : x_ln p = n) (hi : x_ib i n) (k : x_E xs d y nx L (.int (S p i.toNatClampNeg) :: K) S Q) : x_E xs d y pc L (.int i :: .ref p :: K) S Q := by
  refine x_E_step hf rfl ?_ k
  simp only [x_step, x_hp_tg ht (by omega)]
  rw [if_pos ⟨by trivial, hi.1⟩, List.getElem?_map, List.getElem?_range (by rw [hn]; exact hi.2)]
  simp only [Option.map_some, x_vl_i (x_tg_a ht)]
theorem e_is {p n : Nat} {i v : Int32} (hf : x_fe y pc = some (.iastore, nx)) (ht : x_tg p = 10) (hn : x_ln p = n) (hi : x_ib i n) (k : x_E xs d y nx L K (x_up S p i.toNatClampNeg v) Q) : x_E xs d y pc L (.int v :: .int i :: .ref p :: K) S Q := by
  refine x_E_step hf rfl ?_ k
  have h3 := (x_tg_lt ht (by omega)).1
  simp only [x_step, x_hp_tg ht (by omega)]
  rw [if_pos ⟨by trivial, h3, hi.1, by simp; rw [hn]; exact hi.2⟩, x_hp_set ht (by omega) (by rw [hn]; exact hi.2) (x_tg_a ht)]
theorem e_aa {p c n : Nat} {i : Int32} (hf : x_fe y pc = some (.aaload, nx)) (ht : x_tg p = c) (hc : c = 11 ∨ c = 12) (hn : x_ln p = n) (hi : x_ib i n) (k : x_tg (x_rr p i.toNatClampNeg) = (if c = 11 then 2 else 0) → x_E xs d y nx L (.ref (x_rr p i.toNatClampNeg) :: K) S Q) : x_E xs d y pc L (.int i :: .ref p :: K) S Q := by
  have h2 := x_tg_q ht hc (j := i.toNatClampNeg) (by rw [hn]; exact hi.2)
  refine x_E_step hf rfl ?_ (k h2.2)
  have h4 := (x_tg_lt h2.2 (by split <;> omega)).1
  simp only [x_step, x_hp_tg ht (by omega)]
  rw [if_pos ⟨hc, hi.1⟩, List.getElem?_map, List.getElem?_range (by rw [hn]; exact hi.2)]
  simp only [Option.map_some, x_vl_r h2.1]
  rw [if_neg (fun z => absurd h4 (by rw [show x_rr p i.toNatClampNeg = 7 from z]; decide))]
theorem e_al {p c n : Nat} {v : Int32} (hf : x_fe y pc = some (.arraylength, nx)) (ht : x_tg p = c) (hc : c = 10 ∨ c = 11 ∨ c = 12) (hn : x_ln p = n) (hv : Int32.ofNat n = v) (k : x_E xs d y nx L (.int v :: K) S Q) : x_E xs d y pc L (.ref p :: K) S Q := by
  refine x_E_step hf rfl ?_ k
  simp only [x_step, x_hp_tg ht (by omega)]
  rw [if_pos (by omega), List.length_map, List.length_range, hn, hv]
theorem e_abs {a : Int32} (hf : x_fe y pc = some (.f2d, nx)) (hk : x_cat K ≤ 8) (k : x_E xs d y nx L (.int (if 0 ≤ a then a else 0 - a) :: K) S Q) : x_E xs d y pc L (.int a :: K) S Q := x_E_step hf rfl (by simp only [x_step, if_pos hk]) k
theorem e_max {a b : Int32} (hf : x_fe y pc = some (.f2i, nx)) (hk : x_cat K ≤ 8) (k : x_E xs d y nx L (.int (if a < b then b else a) :: K) S Q) : x_E xs d y pc L (.int b :: .int a :: K) S Q := x_E_step hf rfl (by simp only [x_step, if_pos hk]) k
theorem x_cp_w {S : x_M} {p q np nq sp dp n : Nat} (hp : x_tg p = 10) (hq : x_tg q = 10) (hnp : x_ln p = np) (hnq : x_ln q = nq) (h1 : sp + n ≤ np) (h2 : dp + n ≤ nq) : (x_hp xs S).set q (10, x_cpy ((List.range (x_ln p)).map (x_vl S p)) ((List.range (x_ln q)).map (x_vl S q)) sp dp n) = x_hp xs (x_cp S p sp q dp n) := by
  obtain ⟨h8, h75⟩ := x_tg_lt hq (by omega)
  refine x_hp_ext h8 h75 ?_ (fun r hr => ?_)
  · unfold x_ce
    rw [hq]
    congr 1
    unfold x_cpy
    rw [List.length_map, List.length_range]
    apply List.map_congr_left
    intro j hj
    have hjl := List.mem_range.mp hj
    show _ = x_vl _ q j
    have hv : ∀ T : x_M, x_vl T q j = .int (T q j) := fun T => by unfold x_vl; rw [x_tg_a hq]
    rw [hv]
    show _ = Value.int (if q = q ∧ _ then _ else _)
    by_cases hc : dp ≤ j ∧ j < dp + n
    · rw [if_pos hc, if_pos ⟨rfl, hc⟩, List.getD_eq_getElem?_getD, List.getElem?_map, List.getElem?_range (by omega)]
      show x_vl S p _ = _
      unfold x_vl
      rw [x_tg_a hp]
    · rw [if_neg hc, if_neg (fun z => hc z.2), List.getD_eq_getElem?_getD, List.getElem?_map, List.getElem?_range hjl]
      exact hv S
  · funext j
    show (if r = q ∧ _ then _ else _) = _
    rw [if_neg (fun z => hr z.1)]
theorem e_cp {p q np nq : Nat} {sp dp n : Int32} (hf : x_fe y pc = some (.d2i, nx)) (hp : x_tg p = 10) (hq : x_tg q = 10) (hnp : x_ln p = np) (hnq : x_ln q = nq) (hk : x_cat K ≤ 8) (h0 : ¬ sp < 0 ∧ ¬ dp < 0 ∧ ¬ n < 0 ∧ sp.toNatClampNeg + n.toNatClampNeg ≤ np ∧ dp.toNatClampNeg + n.toNatClampNeg ≤ nq)
    (k : x_E xs d y nx L K (x_cp S p sp.toNatClampNeg q dp.toNatClampNeg n.toNatClampNeg) Q) : x_E xs d y pc L (.int n :: .int dp :: .ref q :: .int sp :: .ref p :: K) S Q := by
  refine x_E_step hf rfl ?_ k
  obtain ⟨a1, a2, a3, a4, a5⟩ := h0
  simp only [x_step, x_hp_tg hp (by omega), x_hp_tg hq (by omega)]
  rw [if_pos ⟨by trivial, by trivial, (x_tg_lt hp (by omega)).1, (x_tg_lt hq (by omega)).1, a1, a2, a3, by simp; omega, by simp; omega, hk⟩, x_cp_w hp hq hnp hnq a4 a5]
theorem e_ireturn {v : Int32} {ty : FieldType} (hf : x_fe y pc = some (.ireturn, nx)) (ht : x_rt y = some ty) (hn : narrow ty (.int v) = .int v) (k : Q (some (.int v)) S) : x_E xs d y pc L [.int v] S Q := by
  refine ⟨1, some (.int v), S, ?_, k⟩
  rw [x_run_succ, hf]
  simp only [x_cal, ht, hn, if_true]
theorem e_return (hf : x_fe y pc = some (.return_, nx)) (ht : x_rt y = none) (k : Q none S) : x_E xs d y pc L [] S Q := by
  refine ⟨1, none, S, ?_, k⟩
  rw [x_run_succ, hf]
  simp only [x_cal, ht]
theorem e_call {i : Instr} {z n : Nat} {A R : List Value} {P : Option Value → x_M → Prop} (hf : x_fe y pc = some (i, nx)) (hc : x_cal i = some z) (hn : x_na z = n) (hA : K.take n = A.reverse) (hR : K.drop n = R) (ho : x_okc i z K (x_hp xs S) = true) (h1 : x_E xs d z 0 (x_loc (x_ml z) A) [] S P) (k : ∀ r S', P r S' → x_E xs (d + 1) y nx L (r.toList ++ R) S' Q) : x_E xs (d + 1) y pc L K S Q := by
  obtain ⟨n1, r1, S1, g1, g2⟩ := h1
  obtain ⟨n2, r2, S2, g3, g4⟩ := k r1 S1 g2
  refine ⟨max n1 n2 + 1, r2, S2, x_run_call hf hc ho (h1 := x_hp xs S1) (r1 := r1) ?_ ?_, g4⟩
  · rw [hn, hA, List.reverse_reverse]
    exact x_run_up _ _ _ _ _ _ _ _ g1 _ _ (Nat.le_max_left _ _) (Nat.le_refl _)
  · rw [hn, hR]
    exact x_run_up _ _ _ _ _ _ _ _ g3 _ _ (Nat.le_max_right _ _) (Nat.le_refl _)
theorem x_ok_s {z n : Nat} {A : List Value} (hn : x_na z = n) (h1 : n ≤ K.length) (h2 : x_cat (K.drop n) ≤ 8) (hA : K.take n = A.reverse) (h3 : (x_ent A).length ≤ x_ml z) : x_okc (.invokestatic z) z K (x_hp xs S) = true := by
  unfold x_okc
  rw [hn, hA, List.reverse_reverse]
  simp only [Bool.and_eq_true, decide_eq_true_eq]
  exact ⟨⟨⟨h1, h2⟩, h3⟩, by trivial⟩
theorem x_ok_v {z n p : Nat} {A : List Value} (hn : x_na z = n) (h1 : n ≤ K.length) (h2 : x_cat (K.drop n) ≤ 8) (hA : K.take n = A.reverse) (h3 : (x_ent A).length ≤ x_ml z) (hp : K[n - 1]? = some (.ref p)) (hc : x_cy z < 7) (ht : x_tg p = x_cy z) : x_okc (.invokevirtual z) z K (x_hp xs S) = true := by
  unfold x_okc
  rw [hn, hA, List.reverse_reverse]
  simp only [Bool.and_eq_true, decide_eq_true_eq, hp, x_hp_tg ht (by omega)]
  have := (x_tg_lt ht (by omega)).1
  exact ⟨⟨⟨h1, h2⟩, h3⟩, trivial, fun z => absurd this (by rw [show p = 7 from z]; decide)⟩
theorem e_si {z n : Nat} {A R : List Value} {P : Int32 → x_M → Prop} (hf : x_fe y pc = some (.invokestatic z, nx)) (hn : x_na z = n) (hA : K.take n = A.reverse) (hR : K.drop n = R) (h1 : n ≤ K.length) (h2 : x_cat R ≤ 8) (h3 : (x_ent A).length ≤ x_ml z) (hcl : x_Ci xs d z A S P) (k : ∀ v S', P v S' → x_E xs (d + 1) y nx L (.int v :: R) S' Q) : x_E xs (d + 1) y pc L K S Q :=
  e_call hf rfl hn hA hR (x_ok_s hn h1 (by rw [hR]; exact h2) hA h3) hcl (fun r S' ⟨v, hv, hp⟩ => by subst hv; exact k v S' hp)
theorem e_sv {z n : Nat} {A R : List Value} {P : x_M → Prop} (hf : x_fe y pc = some (.invokestatic z, nx)) (hn : x_na z = n) (hA : K.take n = A.reverse) (hR : K.drop n = R) (h1 : n ≤ K.length) (h2 : x_cat R ≤ 8) (h3 : (x_ent A).length ≤ x_ml z) (hcl : x_Cv xs d z A S P) (k : ∀ S', P S' → x_E xs (d + 1) y nx L R S' Q) : x_E xs (d + 1) y pc L K S Q :=
  e_call hf rfl hn hA hR (x_ok_s hn h1 (by rw [hR]; exact h2) hA h3) hcl (fun r S' ⟨hv, hp⟩ => by subst hv; exact k S' hp)
theorem e_vi {z n p : Nat} {A R : List Value} {P : Int32 → x_M → Prop} (hf : x_fe y pc = some (.invokevirtual z, nx)) (hn : x_na z = n) (hA : K.take n = A.reverse) (hR : K.drop n = R) (h1 : n ≤ K.length) (h2 : x_cat R ≤ 8) (h3 : (x_ent A).length ≤ x_ml z) (hp : K[n - 1]? = some (.ref p)) (hc : x_cy z < 7) (ht : x_tg p = x_cy z) (hcl : x_Ci xs d z A S P) (k : ∀ v S', P v S' → x_E xs (d + 1) y nx L (.int v :: R) S' Q) : x_E xs (d + 1) y pc L K S Q :=
  e_call hf rfl hn hA hR (x_ok_v hn h1 (by rw [hR]; exact h2) hA h3 hp hc ht) hcl (fun r S' ⟨v, hv, hp⟩ => by subst hv; exact k v S' hp)
theorem e_vv {z n p : Nat} {A R : List Value} {P : x_M → Prop} (hf : x_fe y pc = some (.invokevirtual z, nx)) (hn : x_na z = n) (hA : K.take n = A.reverse) (hR : K.drop n = R) (h1 : n ≤ K.length) (h2 : x_cat R ≤ 8) (h3 : (x_ent A).length ≤ x_ml z) (hp : K[n - 1]? = some (.ref p)) (hc : x_cy z < 7) (ht : x_tg p = x_cy z) (hcl : x_Cv xs d z A S P) (k : ∀ S', P S' → x_E xs (d + 1) y nx L R S' Q) : x_E xs (d + 1) y pc L K S Q :=
  e_call hf rfl hn hA hR (x_ok_v hn h1 (by rw [hR]; exact h2) hA h3 hp hc ht) hcl (fun r S' ⟨hv, hp⟩ => by subst hv; exact k S' hp)
end XE
theorem x_n7 {p c : Nat} (h : x_tg p = c) (hc : c < 99) : p ≠ 7 := by
  have := (x_tg_lt h hc).1
  omega
theorem x_fit_i {e : Nat} {v : Int32} (h : x_ty (e / 32) (e % 32) = .int) : x_fit e (.int v) = true := by
  unfold x_fit
  rw [h]
  simp [narrow, fits]
theorem x_nz {v : Int32} (hv : v = 0 ∨ v = 1) : narrow .boolean (.int v) = .int v := by
  rcases hv with rfl | rfl <;> rfl
theorem x_fit_z {e : Nat} {v : Int32} (h : x_ty (e / 32) (e % 32) = .boolean) (hv : v = 0 ∨ v = 1) : x_fit e (.int v) = true := by
  unfold x_fit
  rw [h, x_nz hv]
  rcases hv with rfl | rfl <;> simp [fits]
/-- the old arrays: the script, the two static ones -/
def x_ol (xs : List Int32) (p : Nat) : Nat := if p = 0 then xs.length else 6
def x_oa (xs : List Int32) (p j : Nat) : Int32 := if p = 0 then xs.getD j 0 else if p = 1 then x_sizeB.getD j 0 else x_markB.getD j 0
theorem x_hp_o {xs : List Int32} {S : x_M} {p : Nat} (h : p < 8) : (x_hp xs S)[p]? = (x_old xs)[p]? := by
  unfold x_hp
  have hl : (x_old xs).length = 8 := rfl
  rw [List.getElem?_append_left (by omega)]
theorem x_hp_oa {xs : List Int32} {S : x_M} {p : Nat} (h : p ≤ 2) : ∃ vs : List Value, (x_hp xs S)[p]? = some (10, vs) ∧ vs.length = x_ol xs p ∧ ∀ j, j < x_ol xs p → vs[j]? = some (.int (x_oa xs p j)) := by
  have key : ∀ (l : List Int32) (j : Nat), j < l.length → (l.map Value.int)[j]? = some (.int (l.getD j 0)) := by
    intro l j hj
    rw [List.getElem?_map, List.getD_eq_getElem?_getD, List.getElem?_eq_getElem hj]
    rfl
  rw [x_hp_o (by omega)]
  rcases (by omega : p = 0 ∨ p = 1 ∨ p = 2) with rfl | rfl | rfl
  · exact ⟨xs.map .int, rfl, List.length_map _, fun j hj => key xs j hj⟩
  · exact ⟨x_sizeB.map .int, rfl, rfl, fun j hj => key x_sizeB j hj⟩
  · exact ⟨x_markB.map .int, rfl, rfl, fun j hj => key x_markB j hj⟩
/-- where a switch goes, of a number -/
def x_tsw (pc : Nat) (dd lo hi : Int) (offs : Array Int) (c : Int32) : Option Nat := if c.toInt < lo ∨ hi < c.toInt then x_to pc dd else match offs[(c.toInt - lo).toNat]? with
  | some o => x_to pc o
  | none => none
section XE2
variable {xs : List Int32} {d y pc nx : Nat} {L K : List Value} {S : x_M} {Q : Option Value → x_M → Prop}
theorem e_inc {j : Nat} {n : Int} {v c : Int32} {L' : List Value} (hf : x_fe y pc = some (.iinc j n, nx)) (h0 : L[j]? = some (.int v)) (hc : Int32.ofInt n = c) (hl : x_st1 L j (.int (v + c)) = L') (k : x_E xs d y nx L' K S Q) : x_E xs d y pc L K S Q := e_iinc hf h0 (by rw [hc]) hl k
theorem e_iak {p n kk : Nat} {i : Int32} (hf : x_fe y pc = some (.iaload, nx)) (ht : x_tg p = 10) (hn : x_ln p = n) (hi : (¬ i < 0 ∧ kk < n) ∧ i.toNatClampNeg = kk) (k : x_E xs d y nx L (.int (S p kk) :: K) S Q) : x_E xs d y pc L (.int i :: .ref p :: K) S Q := e_ia hf ht hn ⟨hi.1.1, by rw [hi.2]; exact hi.1.2⟩ (by rw [hi.2]; exact k)
theorem e_isk {p n kk : Nat} {i v : Int32} (hf : x_fe y pc = some (.iastore, nx)) (ht : x_tg p = 10) (hn : x_ln p = n) (hi : (¬ i < 0 ∧ kk < n) ∧ i.toNatClampNeg = kk) (k : x_E xs d y nx L K (x_up S p kk v) Q) : x_E xs d y pc L (.int v :: .int i :: .ref p :: K) S Q := e_is hf ht hn ⟨hi.1.1, by rw [hi.2]; exact hi.1.2⟩ (by rw [hi.2]; exact k)
theorem e_cp2 {p q np nq a b mm : Nat} {sp dp n : Int32} (hf : x_fe y pc = some (.d2i, nx)) (hp : x_tg p = 10) (hq : x_tg q = 10) (hnp : x_ln p = np) (hnq : x_ln q = nq) (hk : x_cat K ≤ 8) (ha : sp.toNatClampNeg = a) (hb : dp.toNatClampNeg = b) (hm : n.toNatClampNeg = mm) (h0 : ¬ sp < 0 ∧ ¬ dp < 0 ∧ ¬ n < 0 ∧ a + mm ≤ np ∧ b + mm ≤ nq)
    (k : x_E xs d y nx L K (x_cp S p a q b mm) Q) : x_E xs d y pc L (.int n :: .int dp :: .ref q :: .int sp :: .ref p :: K) S Q := by
  subst ha
  subst hb
  subst hm
  exact e_cp hf hp hq hnp hnq hk h0 k
theorem e_iao {p : Nat} {i : Int32} (hf : x_fe y pc = some (.iaload, nx)) (hp : p ≤ 2) (hi : x_ib i (x_ol xs p)) (k : x_E xs d y nx L (.int (x_oa xs p i.toNatClampNeg) :: K) S Q) : x_E xs d y pc L (.int i :: .ref p :: K) S Q := by
  obtain ⟨vs, h1, h2, h3⟩ := x_hp_oa (xs := xs) (S := S) hp
  refine x_E_step hf rfl ?_ k
  simp only [x_step, h1]
  rw [if_pos ⟨by trivial, hi.1⟩, h3 _ hi.2]
theorem e_alo {p : Nat} (hf : x_fe y pc = some (.arraylength, nx)) (hp : p ≤ 2) (k : x_E xs d y nx L (.int (Int32.ofNat (x_ol xs p)) :: K) S Q) : x_E xs d y pc L (.ref p :: K) S Q := by
  obtain ⟨vs, h1, h2, h3⟩ := x_hp_oa (xs := xs) (S := S) hp
  refine x_E_step hf rfl ?_ k
  simp only [x_step, h1]
  rw [if_pos (by omega), h2]
theorem e_gs0 (hf : x_fe y pc = some (.getstatic 0, nx)) (k : x_E xs d y nx L (.ref 1 :: K) S Q) : x_E xs d y pc L K S Q := x_E_step hf rfl rfl k
theorem e_gs1 (hf : x_fe y pc = some (.getstatic 1, nx)) (k : x_E xs d y nx L (.ref 2 :: K) S Q) : x_E xs d y pc L K S Q := x_E_step hf rfl rfl k
theorem e_ts {dd lo hi : Int} {offs : Array Int} {a c : Int32} {t : Nat} (hf : x_fe y pc = some (.tableswitch dd lo hi offs, nx)) (hx : a = c) (ht : x_tsw pc dd lo hi offs c = some t) (k : x_E xs d y t L K S Q) : x_E xs d y pc L (.int a :: K) S Q := by
  subst hx
  refine x_E_step hf rfl ?_ k
  unfold x_tsw at ht
  simp only [x_step]
  split at ht
  next hc => rw [if_pos hc, ht]
  next hc =>
    rw [if_neg hc]
    split at ht
    next o ho => rw [ho]; simp only [ht]
    next => cases ht
theorem e_tsd {dd lo hi : Int} {offs : Array Int} {a : Int32} {t : Nat} (hf : x_fe y pc = some (.tableswitch dd lo hi offs, nx)) (hx : a.toInt < lo ∨ hi < a.toInt) (ht : x_to pc dd = some t) (k : x_E xs d y t L K S Q) : x_E xs d y pc L (.int a :: K) S Q := by
  refine x_E_step hf rfl ?_ k
  simp only [x_step]
  rw [if_pos hx, ht]
theorem e_lk {dd : Int} {ps : Array (Int × Int)} {a c : Int32} {t : Nat} (hf : x_fe y pc = some (.lookupswitch dd ps, nx)) (hx : a = c) (ht : ((ps.toList.zip (ps.toList.drop 1)).all (fun (a, next) => a.1 < next.1) = true) ∧ x_to pc (Op.lookupswitch.offset ps.toList dd c.toInt) = some t) (k : x_E xs d y t L K S Q) : x_E xs d y pc L (.int a :: K) S Q := by
  subst hx
  refine x_E_step hf rfl ?_ k
  simp only [x_step]
  rw [if_pos ht.1, ht.2]
theorem e_lkd {dd : Int} {ps : Array (Int × Int)} {a : Int32} {t : Nat} (hf : x_fe y pc = some (.lookupswitch dd ps, nx)) (hs : (ps.toList.zip (ps.toList.drop 1)).all (fun (a, next) => a.1 < next.1) = true) (ht : x_to pc (Op.lookupswitch.offset ps.toList dd a.toInt) = some t) (k : x_E xs d y t L K S Q) : x_E xs d y pc L (.int a :: K) S Q := by
  refine x_E_step hf rfl ?_ k
  simp only [x_step]
  rw [if_pos hs, ht]
theorem x_hp_st {p : Nat} (h : p = 3 ∨ p = 4) : ∃ fs : List Value, (x_hp xs S)[p]? = some (8, fs) := by
  rcases h with rfl | rfl
  · exact ⟨_, by rw [x_hp_o (by omega)]; rfl⟩
  · exact ⟨_, by rw [x_hp_o (by omega)]; rfl⟩
theorem e_wi {z n p : Nat} {A R : List Value} {P : Int32 → x_M → Prop} (hf : x_fe y pc = some (.invokevirtual z, nx)) (hn : x_na z = n) (hA : K.take n = A.reverse) (hR : K.drop n = R) (h1 : n ≤ K.length) (h2 : x_cat R ≤ 8) (h3 : (x_ent A).length ≤ x_ml z) (hp : K[n - 1]? = some (.ref p)) (hq : p = 3 ∨ p = 4) (hc : x_cy z = 8) (hcl : x_Ci xs d z A S P) (k : ∀ v S', P v S' → x_E xs (d + 1) y nx L (.int v :: R) S' Q) : x_E xs (d + 1) y pc L K S Q := by
  refine e_call hf rfl hn hA hR ?_ hcl (fun r S' ⟨v, hv, hp⟩ => by subst hv; exact k v S' hp)
  obtain ⟨fs, hfs⟩ := x_hp_st (xs := xs) (S := S) hq
  unfold x_okc
  rw [hn, hA, List.reverse_reverse]
  simp only [Bool.and_eq_true, decide_eq_true_eq, hp, hfs]
  exact ⟨⟨⟨h1, by rw [hR]; exact h2⟩, h3⟩, hc.symm, fun z => by rcases hq with rfl | rfl <;> exact absurd z (by decide)⟩
theorem x_Ci_of {z : Nat} {A : List Value} {P : Int32 → x_M → Prop} (h : x_loc (x_ml z) A = L) (k : x_E xs d z 0 L [] S (fun r S' => ∃ v : Int32, r = some (.int v) ∧ P v S')) : x_Ci xs d z A S P := by subst h; exact k
theorem x_Cv_of {z : Nat} {A : List Value} {P : x_M → Prop} (h : x_loc (x_ml z) A = L) (k : x_E xs d z 0 L [] S (fun r S' => r = none ∧ P S')) : x_Cv xs d z A S P := by subst h; exact k
theorem x_Ci_weak {z : Nat} {A : List Value} {P P' : Int32 → x_M → Prop} (h : x_Ci xs d z A S P) (hp : ∀ v S', P v S' → P' v S') : x_Ci xs d z A S P' := x_E_weak h (fun r S' ⟨v, h1, h2⟩ => ⟨v, h1, hp v S' h2⟩)
theorem x_Cv_weak {z : Nat} {A : List Value} {P P' : x_M → Prop} (h : x_Cv xs d z A S P) (hp : ∀ S', P S' → P' S') : x_Cv xs d z A S P' := x_E_weak h (fun r S' ⟨h1, h2⟩ => ⟨h1, hp S' h2⟩)
end XE2
section XE3
variable {xs : List Int32} {d y pc nx : Nat} {L K : List Value} {S : x_M} {Q : Option Value → x_M → Prop}
theorem e_pfn {e c j p : Nat} {v : Int32} (hf : x_fe y pc = some (.putfield e, nx)) (he : e / 32 = c ∧ e % 32 = j) (hc : c < 7 ∧ j < x_N c ∧ x_isr c j = false) (ht : x_tg p = c) (hv : x_fit e (.int v) = true) (k : ∀ S1, S1 = x_up S p j v → x_E xs d y nx L K S1 Q) : x_E xs d y pc L (.int v :: .ref p :: K) S Q := e_pf hf he hc ht hv (k _ rfl)
theorem e_istoren {j : Nat} {v : Int32} {L' : Int32 → List Value} (hf : x_fe y pc = some (.istore j, nx)) (hj : j < L.length) (hl : ∀ w : Int32, x_st1 L j (.int w) = L' w) (k : ∀ w, w = v → x_E xs d y nx (L' w) K S Q) : x_E xs d y pc L (.int v :: K) S Q := e_istore hf hj (hl v) (k v rfl)
theorem e_isn {p n : Nat} {i v : Int32} (hf : x_fe y pc = some (.iastore, nx)) (ht : x_tg p = 10) (hn : x_ln p = n) (hi : x_ib i n) (k : ∀ S1, S1 = x_up S p i.toNatClampNeg v → x_E xs d y nx L K S1 Q) : x_E xs d y pc L (.int v :: .int i :: .ref p :: K) S Q := e_is hf ht hn hi (k _ rfl)
theorem e_iskn {p n kk : Nat} {i v : Int32} (hf : x_fe y pc = some (.iastore, nx)) (ht : x_tg p = 10) (hn : x_ln p = n) (hi : (¬ i < 0 ∧ kk < n) ∧ i.toNatClampNeg = kk) (k : ∀ S1, S1 = x_up S p kk v → x_E xs d y nx L K S1 Q) : x_E xs d y pc L (.int v :: .int i :: .ref p :: K) S Q := e_isk hf ht hn hi (k _ rfl)
theorem e_cpn {p q np nq a b mm : Nat} {sp dp n : Int32} (hf : x_fe y pc = some (.d2i, nx)) (hp : x_tg p = 10) (hq : x_tg q = 10) (hnp : x_ln p = np) (hnq : x_ln q = nq) (hk : x_cat K ≤ 8) (ha : sp.toNatClampNeg = a) (hb : dp.toNatClampNeg = b) (hm : n.toNatClampNeg = mm) (h0 : ¬ sp < 0 ∧ ¬ dp < 0 ∧ ¬ n < 0 ∧ a + mm ≤ np ∧ b + mm ≤ nq)
    (k : ∀ S1, S1 = x_cp S p a q b mm → x_E xs d y nx L K S1 Q) : x_E xs d y pc L (.int n :: .int dp :: .ref q :: .int sp :: .ref p :: K) S Q := e_cp2 hf hp hq hnp hnq hk ha hb hm h0 (k _ rfl)
end XE3
theorem x_cct_eq {a b : Int32} (h : x_cc .eq a b = true) : a = b := of_decide_eq_true h
theorem x_ccf_eq {a b : Int32} (h : ¬ x_cc .eq a b = true) : ¬ a = b := fun z => h (decide_eq_true z)
theorem x_cct_lt {a b : Int32} (h : x_cc .lt a b = true) : a < b := of_decide_eq_true h
theorem x_ccf_lt {a b : Int32} (h : ¬ x_cc .lt a b = true) : ¬ a < b := fun z => h (decide_eq_true z)
theorem x_cct_ge {a b : Int32} (h : x_cc .ge a b = true) : b ≤ a := of_decide_eq_true h
theorem x_ccf_ge {a b : Int32} (h : ¬ x_cc .ge a b = true) : ¬ b ≤ a := fun z => h (decide_eq_true z)
theorem x_cct_gt {a b : Int32} (h : x_cc .gt a b = true) : b < a := of_decide_eq_true h
theorem x_ccf_gt {a b : Int32} (h : ¬ x_cc .gt a b = true) : ¬ b < a := fun z => h (decide_eq_true z)
theorem x_cct_le {a b : Int32} (h : x_cc .le a b = true) : a ≤ b := of_decide_eq_true h
theorem x_ccf_le {a b : Int32} (h : ¬ x_cc .le a b = true) : ¬ a ≤ b := fun z => h (decide_eq_true z)
theorem x_cct_ne {a b : Int32} (h : x_cc .ne a b = true) : ¬ a = b := of_decide_eq_true h
theorem x_ccf_ne {a b : Int32} (h : ¬ x_cc .ne a b = true) : a = b := Decidable.not_not.mp (fun z => h (decide_eq_true z))
