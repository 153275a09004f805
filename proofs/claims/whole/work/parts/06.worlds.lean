/-! THE SMALL MACHINE AND THE GREAT ONE: worlds -/
def x_sizeB : List Int32 := [10, 11, 14, 12, 13, 12]
def x_markB : List Int32 := [20, 21, 23, 21, 24, 22]
def x_str0 : List Int32 := [116, 97, 98, 108, 101]
def x_str1 : List Int32 := [99, 97, 114, 100]
def x_old (xs : List Int32) : x_H := [(10, xs.map .int), (10, x_sizeB.map .int), (10, x_markB.map .int), (8, [.ref 5, .int 0]), (8, [.ref 6, .int 0]), (14, x_str0.map .int), (14, x_str1.map .int), (99, [])]
def x_A (sz : Nat) : Nat → Prop := fun q => sz ≤ q
def x_ad (o : Nat → Nat) (sz k : Nat) : Nat := if k < 8 then o k else sz + (k - 8)
def x_tr (o : Nat → Nat) (sio : Value) (sz : Nat) (v : Value) : Value := match v with
  | .ref k => if k = 7 then sio else .ref (x_ad o sz k)
  | v => v
theorem x_tr_ref {o : Nat → Nat} {sio : Value} {sz k : Nat} (h : k ≠ 7) : x_tr o sio sz (.ref k) = .ref (x_ad o sz k) := by
  show (if k = 7 then sio else .ref (x_ad o sz k)) = _
  rw [if_neg h]
theorem x_tr_cat {o : Nat → Nat} {sio : Value} {sz : Nat} (hsio : sio = .null ∨ ∃ t, sio = .ref t) (v : Value) : (x_tr o sio sz v).category = v.category := by
  cases v with
  | ref k =>
    show (if k = 7 then sio else .ref (x_ad o sz k)).category = 1
    split
    · rcases hsio with rfl | ⟨t, rfl⟩ <;> rfl
    · rfl
  | _ => rfl
theorem x_cat_tr {o : Nat → Nat} {sio : Value} {sz : Nat} (hsio : sio = .null ∨ ∃ t, sio = .ref t) (l : List Value) : ((l.map (x_tr o sio sz)).map fun v => v.category).sum = x_cat l := by
  unfold x_cat
  rw [List.map_map]
  congr 1
  exact List.map_congr_left fun v _ => x_tr_cat hsio v
def x_Old (o : Nat → Nat) (sio : Value) (sz : Nat) (xs : List Int32) (U : State) (H : Heap) : Prop :=
  (va_T .int (o 0) xs.length (fun j => .int (xs.getD j 0)) (x_A sz) U H ∧ va_T .int (o 1) 6 (fun j => .int (x_sizeB.getD j 0)) (x_A sz) U H ∧ va_T .int (o 2) 6 (fun j => .int (x_markB.getD j 0)) (x_A sz) U H) ∧
  (va_Z "WindowCards" "SIZE_BODIES" "[I" (.ref (o 1)) (x_A sz) U H ∧ va_Z "WindowCards" "MARK_BODIES" "[I" (.ref (o 2)) (x_A sz) U H ∧ va_Z "java/lang/String" "COMPACT_STRINGS" "Z" (.int 1) (x_A sz) U H ∧ va_Z "jdk/internal/util/Preconditions" "SIOOBE_FORMATTER" "Ljava/util/function/BiFunction;" sio (x_A sz) U H) ∧
  vk_S 2 [5, 4] [x_str0, x_str1] (fun i => o (3 + i)) (fun i => o (5 + i)) (x_A sz) U H ∧
  (vk_R "WindowCards" 287 "table" (o 3) U ∧ vk_R "WindowCards" 309 "card" (o 4) U) ∧
  (va_AO RX2 U ∧ va_AO RX0 U ∧ ∀ r ∈ x_ne, va_Nw (.methodLinkNest "WindowCards" r.1 (x_nm r.2.1) "WindowCards") U)
theorem x_Old.kept {o : Nat → Nat} {sio : Value} {sz : Nat} {xs : List Int32} {U : State} {H H1 : Heap} (h : x_Old o sio sz xs U H) (hq : ∀ a : Nat, a < H.size → ¬ x_A sz a → H1[a]? = H[a]?) : x_Old o sio sz xs U H1 := by
  obtain ⟨⟨a1, a2, a3⟩, ⟨b1, b2, b3, b4⟩, c1, d1⟩ := h
  exact ⟨⟨a1.kept hq, a2.kept hq, a3.kept hq⟩, ⟨b1.kept hq, b2.kept hq, b3.kept hq, b4.kept hq⟩, c1.kept hq, d1⟩
theorem x_Old.warm {o : Nat → Nat} {sio : Value} {sz : Nat} {xs : List Int32} {s U : State} {H : Heap} (h : x_Old o sio sz xs s H) (hW : s.WarmedH U.vm) : x_Old o sio sz xs U H := by
  obtain ⟨⟨a1, a2, a3⟩, ⟨b1, b2, b3, b4⟩, c1, ⟨d1, d2⟩, e1, e2, e3⟩ := h
  have hv := hW.alike
  exact ⟨⟨va_T.moved hv a1, va_T.moved hv a2, va_T.moved hv a3⟩, ⟨va_Z.moved hv b1, va_Z.moved hv b2, va_Z.moved hv b3, va_Z.moved hv b4⟩, vk_S.moved hv c1, ⟨vk_R.warm hW d1, vk_R.warm hW d2⟩, va_AO.moved hv e1, va_AO.moved hv e2, fun r hr => va_Nw.warmM hW (e3 r hr)⟩
theorem x_Old.same {o : Nat → Nat} {sio : Value} {sz : Nat} {xs : List Int32} {u U : State} {H : Heap} (h : x_Old o sio sz xs u H) (hv : U.vm = u.vm) : x_Old o sio sz xs U H := by
  obtain ⟨⟨a1, a2, a3⟩, ⟨b1, b2, b3, b4⟩, c1, ⟨d1, d2⟩, e1, e2, e3⟩ := h
  have ha : u.vm.Alike U.vm := by rw [hv]; exact Vm.Alike.refl u.vm
  exact ⟨⟨va_T.moved ha a1, va_T.moved ha a2, va_T.moved ha a3⟩, ⟨va_Z.moved ha b1, va_Z.moved ha b2, va_Z.moved ha b3, va_Z.moved ha b4⟩, vk_S.moved ha c1, ⟨vk_R.same hv d1, vk_R.same hv d2⟩, va_AO.moved ha e1, va_AO.moved ha e2, fun r hr => va_Nw.same rfl hv.symm (e3 r hr)⟩
/-- a cell of the small machine, and what the great one holds there -/
def x_R (o : Nat → Nat) (sio : Value) (sz : Nat) (tys : List (ClassId × FieldType)) (c : x_C) (e : va_E) : Prop := match e with
  | .inr q => c.1 = q.1 ∧ q.1 < 7 ∧ q.2 = c.2.map (x_tr o sio sz)
  | .inl (cA, n, .inl f) => c.1 = 10 ∧ (∃ t0 : Nat, tys[t0]? = some (cA, FieldType.int)) ∧ n = c.2.length ∧ ∀ (j : Nat) (v : Value), c.2[j]? = some v → v = .int (f j)
  | .inl (cA, n, .inr (.inr (.inr (.inr f)))) => ((c.1 = 11 ∧ ∃ t0 : Nat, tys[t0]? = some (cA, FieldType.object RX2)) ∨ (c.1 = 12 ∧ ∃ t0 : Nat, tys[t0]? = some (cA, FieldType.object RX0))) ∧ n = c.2.length ∧ ∀ (j : Nat) (v : Value), c.2[j]? = some v → x_tr o sio sz v = va_rf (f j)
  | _ => False
def x_Q (o : Nat → Nat) (sio : Value) (sz : Nat) (xs : List Int32) (h : x_H) (ws : va_W) (tys : List (ClassId × FieldType)) : Prop := ws.length + 8 = h.length ∧ h.take 8 = x_old xs ∧ ∀ (i : Nat) (q : Nat × va_E), ws[i]? = some q → q.1 = sz + i ∧ ∃ c, h[8 + i]? = some c ∧ x_R o sio sz tys c q.2
def x_W (o : Nat → Nat) (sio : Value) (sz : Nat) (xs : List Int32) (D : va_G) (h : x_H) (H : Heap) (U : State) : Prop := ∃ (ws : va_W) (tys : List (ClassId × FieldType)), va_P D vwCl ws H ∧ va_D (x_A sz) ws ∧ va_K D vwCl tys U ∧ x_Q o sio sz xs h ws tys
theorem x_W.moved {o : Nat → Nat} {sio : Value} {sz : Nat} {xs : List Int32} {D : va_G} {h : x_H} {H : Heap} {u U : State} (hw : x_W o sio sz xs D h H u) (hv : u.vm.Alike U.vm) : x_W o sio sz xs D h H U := by
  obtain ⟨ws, tys, h1, h2, h3, h4⟩ := hw
  exact ⟨ws, tys, h1, h2, va_K.moved hv h3, h4⟩
theorem x_R.more {o : Nat → Nat} {sio : Value} {sz : Nat} {tys t2 : List (ClassId × FieldType)} {c : x_C} {e : va_E} (h : x_R o sio sz tys c e) : x_R o sio sz (tys ++ t2) c e := by
  have key : ∀ {q : ClassId × FieldType}, (∃ t0 : Nat, tys[t0]? = some q) → ∃ t0 : Nat, (tys ++ t2)[t0]? = some q := by
    rintro q ⟨t0, h0⟩
    exact ⟨t0, by rw [List.getElem?_append_left (List.getElem?_eq_some_iff.mp h0).1]; exact h0⟩
  match e, h with
  | .inr q, h => exact h
  | .inl (cA, n, .inl f), ⟨h1, h2, h3⟩ => exact ⟨h1, key h2, h3⟩
  | .inl (cA, n, .inr (.inr (.inr (.inr f)))), ⟨h1, h3⟩ =>
    refine ⟨?_, h3⟩
    rcases h1 with ⟨a, b⟩ | ⟨a, b⟩
    · exact Or.inl ⟨a, key b⟩
    · exact Or.inr ⟨a, key b⟩
theorem x_Q.new {o : Nat → Nat} {sio : Value} {sz : Nat} {xs : List Int32} {h : x_H} {ws : va_W} {tys : List (ClassId × FieldType)} (hq : x_Q o sio sz xs h ws tys) {p : Nat} {c : x_C} (hp : 8 ≤ p) (hc : h[p]? = some c) : ∃ e, ws[p - 8]? = some (x_ad o sz p, e) ∧ x_R o sio sz tys c e := by
  obtain ⟨h1, h2, h3⟩ := hq
  have hl : p < h.length := (List.getElem?_eq_some_iff.mp hc).1
  have hl2 : p - 8 < ws.length := by omega
  obtain ⟨h4, c', h5, h6⟩ := h3 (p - 8) ws[p - 8] (List.getElem?_eq_getElem hl2)
  rw [show 8 + (p - 8) = p by omega, hc] at h5
  cases h5
  refine ⟨ws[p - 8].2, ?_, h6⟩
  have ha : x_ad o sz p = sz + (p - 8) := by unfold x_ad; rw [if_neg (by omega)]
  rw [List.getElem?_eq_getElem hl2, ha, ← h4]
theorem x_Q.old {o : Nat → Nat} {sio : Value} {sz : Nat} {xs : List Int32} {h : x_H} {ws : va_W} {tys : List (ClassId × FieldType)} (hq : x_Q o sio sz xs h ws tys) {p : Nat} {c : x_C} (hp : p < 8) (hc : h[p]? = some c) : (x_old xs)[p]? = some c := by
  rw [← hq.2.1, List.getElem?_take, if_pos hp]
  exact hc
theorem x_Q.set {o : Nat → Nat} {sio : Value} {sz : Nat} {xs : List Int32} {h : x_H} {ws : va_W} {tys : List (ClassId × FieldType)} (hq : x_Q o sio sz xs h ws tys) {p : Nat} {c : x_C} {e : va_E} (hp : 8 ≤ p) (hl : p < h.length) (hr : x_R o sio sz tys c e) : x_Q o sio sz xs (h.set p c) (ws.set (p - 8) (x_ad o sz p, e)) tys := by
  obtain ⟨h1, h2, h3⟩ := hq
  have ha : x_ad o sz p = sz + (p - 8) := by unfold x_ad; rw [if_neg (by omega)]
  refine ⟨by rw [List.length_set, List.length_set]; exact h1, ?_, fun i q hi => ?_⟩
  · rw [← h2, List.take_set_of_le hp]
  · by_cases hip : i = p - 8
    · subst hip
      rw [List.getElem?_set_self (by omega)] at hi
      cases hi
      refine ⟨ha, c, ?_, hr⟩
      rw [show 8 + (p - 8) = p by omega, List.getElem?_set_self hl]
    · rw [List.getElem?_set_ne (Ne.symm hip)] at hi
      obtain ⟨g1, c', g2, g3⟩ := h3 i q hi
      exact ⟨g1, c', by rw [List.getElem?_set_ne (by omega)]; exact g2, g3⟩
theorem x_Q.push {o : Nat → Nat} {sio : Value} {sz : Nat} {xs : List Int32} {h : x_H} {ws : va_W} {tys t2 : List (ClassId × FieldType)} (hq : x_Q o sio sz xs h ws tys) {c : x_C} {e : va_E} (hr : x_R o sio sz (tys ++ t2) c e) : x_Q o sio sz xs (h ++ [c]) (ws ++ [(x_ad o sz h.length, e)]) (tys ++ t2) := by
  obtain ⟨h1, h2, h3⟩ := hq
  have ha : x_ad o sz h.length = sz + ws.length := by unfold x_ad; rw [if_neg (by omega)]; omega
  refine ⟨by simp; omega, by rw [List.take_append_of_le_length (by omega)]; exact h2, fun i q hi => ?_⟩
  by_cases hil : i < ws.length
  · rw [List.getElem?_append_left hil] at hi
    obtain ⟨g1, c', g2, g3⟩ := h3 i q hi
    exact ⟨g1, c', by rw [List.getElem?_append_left (by omega)]; exact g2, g3.more⟩
  · rw [List.getElem?_append_right (by omega)] at hi
    have hz : i - ws.length < 1 := (List.getElem?_eq_some_iff.mp hi).1
    have hi0 : i = ws.length := by omega
    subst hi0
    rw [Nat.sub_self] at hi
    cases hi
    exact ⟨ha, c, by rw [List.getElem?_append_right (by omega), show 8 + ws.length - h.length = 0 by omega]; rfl, hr⟩
/-! locals -/
def x_L (o : Nat → Nat) (sio : Value) (sz : Nat) (ls : Array Slot) (L : List Value) : Prop := ls.size = L.length ∧ lv_wf ls ∧ ∀ (i : Nat) (v : Value), L[i]? = some v → v ≠ .null → ls[i]? = some (.val (x_tr o sio sz v))
def x_ll (o : Nat → Nat) (sio : Value) (sz : Nat) (L : List Value) : List (Nat × Value) := (L.zipIdx.filter (fun q => decide (q.1 ≠ Value.null))).map (fun q => (q.2, x_tr o sio sz q.1))
theorem x_mem_ll {o : Nat → Nat} {sio : Value} {sz : Nat} {L : List Value} {q : Nat × Value} : q ∈ x_ll o sio sz L ↔ ∃ v, L[q.1]? = some v ∧ v ≠ .null ∧ q.2 = x_tr o sio sz v := by
  unfold x_ll
  simp only [List.mem_map, List.mem_filter, decide_eq_true_eq, Prod.exists]
  constructor
  · rintro ⟨v, i, ⟨h1, h2⟩, rfl⟩
    exact ⟨v, List.mem_zipIdx_iff_getElem?.mp h1, h2, rfl⟩
  · rintro ⟨v, h1, h2, h3⟩
    exact ⟨v, q.1, ⟨List.mem_zipIdx_iff_getElem?.mpr h1, h2⟩, by rw [← h3]⟩
theorem x_L.has {o : Nat → Nat} {sio : Value} {sz : Nat} {ls : Array Slot} {L : List Value} (h : x_L o sio sz ls L) : lv_has ls L.length (x_ll o sio sz L) := by
  refine ⟨h.1, h.2.1, fun q hq => ?_⟩
  obtain ⟨v, h1, h2, h3⟩ := x_mem_ll.mp hq
  rw [h3]
  exact h.2.2 q.1 v h1 h2
theorem x_clr_succ (L : List Value) (j : Nat) : x_clr L (j + 1) = (match L[j]? with
    | some v => if v.category = 2 then L.set j .null else L
    | none => L) := rfl
theorem x_clr_len (L : List Value) (i : Nat) : (x_clr L i).length = L.length := by
  cases i with
  | zero => rfl
  | succ j =>
    rw [x_clr_succ]
    split
    · split
      · exact List.length_set
      · rfl
    · rfl
theorem x_st1_len (L : List Value) (i : Nat) (v : Value) : (x_st1 L i v).length = L.length := by unfold x_st1; rw [List.length_set, x_clr_len]
theorem x_st2_len (L : List Value) (i : Nat) (v : Value) : (x_st2 L i v).length = L.length := by unfold x_st2; rw [List.length_set, x_st1_len]
theorem x_clr_at {L : List Value} {i j : Nat} {v : Value} (h : (x_clr L i)[j]? = some v) (hv : v ≠ .null) : L[j]? = some v ∧ ¬ (j + 1 = i ∧ v.category = 2) := by
  cases i with
  | zero => exact ⟨h, fun z => by omega⟩
  | succ k =>
    rw [x_clr_succ] at h
    split at h
    next w hw =>
      split at h
      next hc =>
        by_cases hj : j = k
        · subst hj
          rw [List.getElem?_set_self (List.getElem?_eq_some_iff.mp hw).1] at h
          cases h
          exact absurd rfl hv
        · rw [List.getElem?_set_ne (Ne.symm hj)] at h
          exact ⟨h, fun z => hj (by omega)⟩
      next hc =>
        refine ⟨h, fun z => ?_⟩
        have hj : j = k := by omega
        subst hj
        rw [hw] at h
        cases h
        exact hc z.2
    next hw =>
      refine ⟨h, fun z => ?_⟩
      have hj : j = k := by omega
      subst hj
      rw [hw] at h
      cases h
theorem x_L.st1 {o : Nat → Nat} {sio : Value} {sz : Nat} (hsio : sio = .null ∨ ∃ t, sio = .ref t) {ls' : Array Slot} {L : List Value} {i : Nat} {v : Value} (h : lv_has ls' L.length ((i, x_tr o sio sz v) :: (x_ll o sio sz L).filter (fun q => !(q.1 == i) && !(q.1 + 1 == i && q.2.category == 2)))) (hi : i < L.length) : x_L o sio sz ls' (x_st1 L i v) := by
  refine ⟨by rw [x_st1_len]; exact h.1, h.2.1, fun j w hj hw => ?_⟩
  by_cases hji : j = i
  · subst hji
    unfold x_st1 at hj
    rw [List.getElem?_set_self (by rw [x_clr_len]; exact hi)] at hj
    cases hj
    exact h.2.2 (j, _) List.mem_cons_self
  · unfold x_st1 at hj
    rw [List.getElem?_set_ne (Ne.symm hji)] at hj
    obtain ⟨h1, h2⟩ := x_clr_at hj hw
    refine h.2.2 (j, x_tr o sio sz w) (List.mem_cons_of_mem _ (List.mem_filter.mpr ⟨x_mem_ll.mpr ⟨w, h1, hw, rfl⟩, ?_⟩))
    simp only [x_tr_cat hsio, Bool.and_eq_true, Bool.not_eq_true', beq_eq_false_iff_ne, ne_eq, Bool.and_eq_false_iff]
    refine ⟨hji, ?_⟩
    by_cases hz : j + 1 = i
    · exact Or.inr fun z => h2 ⟨hz, z⟩
    · exact Or.inl hz
theorem x_L.st2 {o : Nat → Nat} {sio : Value} {sz : Nat} (hsio : sio = .null ∨ ∃ t, sio = .ref t) {ls' : Array Slot} {L : List Value} {i : Nat} {v : Value} (h : lv_has ls' L.length ((i, x_tr o sio sz v) :: (x_ll o sio sz L).filter (fun q => !(q.1 == i) && (!(q.1 == i + 1) && !(q.1 + 1 == i && q.2.category == 2))))) (hi : i + 1 < L.length) : x_L o sio sz ls' (x_st2 L i v) := by
  refine ⟨by rw [x_st2_len]; exact h.1, h.2.1, fun j w hj hw => ?_⟩
  unfold x_st2 at hj
  by_cases hj2 : j = i + 1
  · subst hj2
    rw [List.getElem?_set_self (by rw [x_st1_len]; exact hi)] at hj
    cases hj
    exact absurd rfl hw
  · rw [List.getElem?_set_ne (Ne.symm hj2)] at hj
    by_cases hji : j = i
    · subst hji
      unfold x_st1 at hj
      rw [List.getElem?_set_self (by rw [x_clr_len]; omega)] at hj
      cases hj
      exact h.2.2 (j, _) List.mem_cons_self
    · unfold x_st1 at hj
      rw [List.getElem?_set_ne (Ne.symm hji)] at hj
      obtain ⟨h1, h2⟩ := x_clr_at hj hw
      refine h.2.2 (j, x_tr o sio sz w) (List.mem_cons_of_mem _ (List.mem_filter.mpr ⟨x_mem_ll.mpr ⟨w, h1, hw, rfl⟩, ?_⟩))
      simp only [x_tr_cat hsio, Bool.and_eq_true, Bool.not_eq_true', beq_eq_false_iff_ne, ne_eq, Bool.and_eq_false_iff]
      refine ⟨hji, hj2, ?_⟩
      by_cases hz : j + 1 = i
      · exact Or.inr fun z => h2 ⟨hz, z⟩
      · exact Or.inl hz
/-- the locals with which a method begins -/
theorem x_ent_args {o : Nat → Nat} {sio : Value} {sz : Nat} (hsio : sio = .null ∨ ∃ t, sio = .ref t) (vs : List Value) : ∀ (b i : Nat) (v : Value), (x_ent vs)[i]? = some v → v ≠ .null → (b + i, x_tr o sio sz v) ∈ lv_args b (vs.map (x_tr o sio sz)) := by
  induction vs with
  | nil => intro b i v h; simp [x_ent] at h
  | cons w vs ih =>
    intro b i v h hv
    show _ ∈ (b, x_tr o sio sz w) :: lv_args (if (x_tr o sio sz w).category = 2 then b + 2 else b + 1) (vs.map (x_tr o sio sz))
    rw [x_tr_cat hsio]
    unfold x_ent at h
    split at h
    next hc =>
      rw [if_pos hc]
      match i, h with
      | 0, h => cases h; exact List.mem_cons_self
      | 1, h => cases h; exact absurd rfl hv
      | i + 2, h =>
        have h2 := ih (b + 2) i v (by simpa using h) hv
        rw [show b + (i + 2) = b + 2 + i by omega]
        exact List.mem_cons_of_mem _ h2
    next hc =>
      rw [if_neg hc]
      match i, h with
      | 0, h => cases h; exact List.mem_cons_self
      | i + 1, h =>
        have h2 := ih (b + 1) i v (by simpa using h) hv
        rw [show b + (i + 1) = b + 1 + i by omega]
        exact List.mem_cons_of_mem _ h2
theorem x_ent_len {o : Nat → Nat} {sio : Value} {sz : Nat} (hsio : sio = .null ∨ ∃ t, sio = .ref t) (vs : List Value) : (lg_sl (vs.map (x_tr o sio sz))).length = (x_ent vs).length := by
  induction vs with
  | nil => rfl
  | cons w vs ih =>
    show (List.flatMap _ (x_tr o sio sz w :: vs.map (x_tr o sio sz))).length = _
    rw [List.flatMap_cons, x_tr_cat hsio, List.length_append]
    unfold x_ent
    have ih' : (List.flatMap (fun v => if Value.category v = 2 then [Slot.val v, Slot.second] else [Slot.val v]) (vs.map (x_tr o sio sz))).length = (x_ent vs).length := ih
    rw [ih']
    split <;> simp <;> omega
theorem x_L.entry {o : Nat → Nat} {sio : Value} {sz : Nat} (hsio : sio = .null ∨ ∃ t, sio = .ref t) {vs : List Value} {n : Nat} (hn : (x_ent vs).length ≤ n) : x_L o sio sz ((lg_sl (vs.map (x_tr o sio sz)) ++ List.replicate (n - (lg_sl (vs.map (x_tr o sio sz))).length) Slot.unset).toArray) (x_loc n vs) := by
  have h := lv_entry (vs.map (x_tr o sio sz)) (n := n) (by rw [x_ent_len hsio]; exact hn)
  have hlen : (x_loc n vs).length = n := by unfold x_loc; simp; omega
  refine ⟨by rw [hlen]; exact h.1, h.2.1, fun i v hi hv => ?_⟩
  unfold x_loc at hi
  by_cases hil : i < (x_ent vs).length
  · rw [List.getElem?_append_left hil] at hi
    have h2 := h.2.2 _ (x_ent_args hsio vs 0 i v hi hv)
    simpa using h2
  · rw [List.getElem?_append_right (by omega)] at hi
    exact absurd (List.eq_of_mem_replicate (List.mem_of_getElem? hi)) hv
