/-! ONE STEP -/
theorem x_lk_in {T : List (Nat × Nat × Nat × Nat)} {c i e : Nat} (h : x_lk T c i = some e) : ∃ r ∈ T, r.1 = c ∧ r.2.1 = i ∧ r.2.2.1 = e := by
  unfold x_lk at h
  rw [Option.map_eq_some_iff] at h
  obtain ⟨r, h1, h2⟩ := h
  have h3 := List.find?_some h1
  simp only [Bool.and_eq_true, beq_iff_eq] at h3
  exact ⟨r, List.mem_of_find?_eq_some h1, h3.1, h3.2, h2⟩
theorem x_ft_w {c i e : Nat} (h : x_lk x_ft c i = some e) : Jvm.Cond.fieldLink (x_cn c) i (x_fd e).1 (x_fd e).2.1 (x_fd e).2.2 ∈ x_TB := by
  obtain ⟨r, h1, h2, h3, h4⟩ := x_lk_in h
  have := List.all_eq_true.mp x_ft_ok r h1
  rw [h2, h3, h4] at this
  exact x_at_in this
theorem x_ft_e : x_ft.all (fun r => (r.2.2.1 / 32 == 8 && decide (r.2.2.1 % 32 < 2)) || (decide (r.2.2.1 / 32 < 7) && decide (r.2.2.1 % 32 < x_N (r.2.2.1 / 32)))) = true := by decide +kernel
theorem x_ft_b {c i e : Nat} (h : x_lk x_ft c i = some e) : (e / 32 = 8 ∧ e % 32 < 2) ∨ (e / 32 < 7 ∧ e % 32 < x_N (e / 32)) := by
  obtain ⟨r, h1, h2, h3, h4⟩ := x_lk_in h
  have := List.all_eq_true.mp x_ft_e r h1
  rw [h4] at this
  simpa only [Bool.or_eq_true, Bool.and_eq_true, beq_iff_eq, decide_eq_true_eq] using this
theorem x_sf_w {c i j : Nat} (h : x_lk x_sf c i = some j) : Jvm.Cond.fieldLink (x_cn c) i (x_sd j).1 (x_sd j).2.1 (x_sd j).2.2 ∈ x_TB := by
  obtain ⟨r, h1, h2, h3, h4⟩ := x_lk_in h
  have := List.all_eq_true.mp x_sf_ok r h1
  rw [h2, h3, h4] at this
  exact x_at_in this
theorem x_kl_w {c i n : Nat} (h : x_lk x_kl c i = some n) : Jvm.Cond.constantLong (x_cn c) i (Int64.ofNat n) ∈ x_TB := by
  obtain ⟨r, h1, h2, h3, h4⟩ := x_lk_in h
  have := List.all_eq_true.mp x_kl_ok r h1
  rw [h2, h3, h4] at this
  exact x_at_in this
theorem x_kt_w {c i : Nat} {v : Int32} (h : x_k c i = some v) : Jvm.Cond.constant (x_cn c) i v ∈ x_TB := by
  unfold x_k at h
  rw [Option.map_eq_some_iff] at h
  obtain ⟨r, h1, h2⟩ := h
  have h3 := List.find?_some h1
  simp only [Bool.and_eq_true, beq_iff_eq] at h3
  have := List.all_eq_true.mp x_kt_ok r (List.mem_of_find?_eq_some h1)
  rw [h3.1, h3.2, h2] at this
  exact x_at_in this
theorem x_nt_w {c i ci : Nat} (h : x_new c i = some ci) : ci < 7 ∧ Jvm.Cond.classLink (x_cn c) i (x_cn ci) ∈ x_TB ∧ Jvm.Cond.instantiable (x_cn ci) (x_N ci) ∈ x_TB ∧ Jvm.Cond.initialized (x_cn ci) ∈ x_TB := by
  unfold x_new at h
  rw [Option.map_eq_some_iff] at h
  obtain ⟨r, h1, h2⟩ := h
  have h3 := List.find?_some h1
  simp only [Bool.and_eq_true, beq_iff_eq] at h3
  have := List.all_eq_true.mp x_nt_ok r (List.mem_of_find?_eq_some h1)
  rw [h3.1, h3.2, h2] at this
  simp only [Bool.and_eq_true, decide_eq_true_eq] at this
  exact ⟨this.1.1.1, x_at_in this.1.1.2, x_at_in this.1.2, x_at_in this.2⟩
theorem x_oi_w {c i : Nat} (h : x_is x_oi c i = true) : Jvm.Cond.methodLink (x_cn c) i Lib.objectInit ∈ x_TB := by
  unfold x_is at h
  obtain ⟨r, h1, h2⟩ := List.any_eq_true.mp h
  simp only [Bool.and_eq_true, beq_iff_eq] at h2
  have := List.all_eq_true.mp x_oi_ok r h1
  rw [h2.1, h2.2] at this
  exact x_at_in this
theorem x_ac_w {c i : Nat} (h : x_is x_ac c i = true) : Jvm.Cond.methodLink (x_cn c) i arraycopyName ∈ x_TB := by
  unfold x_is at h
  obtain ⟨r, h1, h2⟩ := List.any_eq_true.mp h
  simp only [Bool.and_eq_true, beq_iff_eq] at h2
  have := List.all_eq_true.mp x_ac_ok r h1
  rw [h2.1, h2.2] at this
  exact x_at_in this
theorem x_cl7 {ci : Nat} (h : ci < 7) : vwCl[ci]? = some (x_cn ci, x_T ci, x_N ci) := by
  rcases (by omega : ci = 0 ∨ ci = 1 ∨ ci = 2 ∨ ci = 3 ∨ ci = 4 ∨ ci = 5 ∨ ci = 6) with rfl | rfl | rfl | rfl | rfl | rfl | rfl <;> rfl
theorem x_hin {ci : Nat} (h : ci < 7) : ∀ w ∈ u_ws (x_cn ci) (x_T ci) (x_N ci), w ∈ x_TB := by
  intro w hw
  have h1 := List.all_eq_true.mp x_in_u ci (List.mem_range.mpr h)
  have h2 := List.all_eq_true.mp h1 w hw
  simp only [Bool.and_eq_true, decide_eq_true_eq] at h2
  exact List.mem_filter.mpr h2
theorem x_hty {ci : Nat} (h : ci < 7) : ∀ k, k < x_N ci → parseFieldDescriptor (x_T ci k).2.2.1 = some (x_ty ci k) := by
  rcases (by omega : ci = 0 ∨ ci = 1 ∨ ci = 2 ∨ ci = 3 ∨ ci = 4 ∨ ci = 5 ∨ ci = 6) with rfl | rfl | rfl | rfl | rfl | rfl | rfl
  · exact tyX0_ok
  · exact tyX1_ok
  · exact tyX2_ok
  · exact tyX3_ok
  · exact tyX4_ok
  · exact tyX5_ok
  · exact tyX6_ok
theorem x_hnm {ci : Nat} (h : ci < 7) : ∀ a, a < x_N ci → ∀ b, b < x_N ci → a ≠ b → (x_T ci a).2.1 ≠ (x_T ci b).2.1 := by
  rcases (by omega : ci = 0 ∨ ci = 1 ∨ ci = 2 ∨ ci = 3 ∨ ci = 4 ∨ ci = 5 ∨ ci = 6) with rfl | rfl | rfl | rfl | rfl | rfl | rfl
  · exact nmX0
  · exact nmX1
  · exact nmX2
  · exact nmX3
  · exact nmX4
  · exact nmX5
  · exact nmX6
theorem x_fd7 {e : Nat} (h : e / 32 < 7) : x_fd e = ((x_T (e / 32) (e % 32)).1, (x_T (e / 32) (e % 32)).2.1, (x_T (e / 32) (e % 32)).2.2.1) := by
  unfold x_fd
  rw [if_neg (by omega)]
theorem x_fit_tr {o : Nat → Nat} {sio : Value} {sz e : Nat} {v : Value} (h : x_fit e v = true) : narrow (x_ty (e / 32) (e % 32)) (x_tr o sio sz v) = x_tr o sio sz v ∧ fits (x_ty (e / 32) (e % 32)) (x_tr o sio sz v) = true := by
  unfold x_fit at h
  simp only [Bool.and_eq_true, decide_eq_true_eq] at h
  obtain ⟨⟨h1, h2⟩, h3⟩ := h
  cases v with
  | ref k =>
    have hk : k ≠ 7 := fun z => h1 (by rw [z])
    rw [x_tr_ref hk]
    revert h3
    cases x_ty (e / 32) (e % 32) <;> simp [narrow, fits]
  | _ => exact ⟨h2, h3⟩
theorem x_to_w {pc t : Nat} {off : Int} (h : x_to pc off = some t) : (pc : Int) + off = (t : Int) := by
  unfold x_to at h
  split at h
  next hp =>
    cases h
    exact (Int.toNat_of_nonneg hp).symm
  next => cases h
theorem x_bi_w {S : List Value} {f : Int32 → Int32 → Option Int32} {nx pc' : Nat} {L L' S' : List Value} {h h' : x_H} (hs : x_bi S f nx L h = some (pc', L', S', h')) : ∃ x y st v, S = .int y :: .int x :: st ∧ f x y = some v ∧ pc' = nx ∧ L' = L ∧ S' = .int v :: st ∧ h' = h := by
  unfold x_bi at hs
  split at hs
  next y x st =>
    split at hs
    next v hv =>
      cases hs
      exact ⟨x, y, st, v, rfl, hv, rfl, rfl, rfl, rfl⟩
    next => cases hs
  next => cases hs
theorem x_un_w {S : List Value} {f : Int32 → Int32} {nx pc' : Nat} {L L' S' : List Value} {h h' : x_H} (hs : x_un S f nx L h = some (pc', L', S', h')) : ∃ x st, S = .int x :: st ∧ pc' = nx ∧ L' = L ∧ S' = .int (f x) :: st ∧ h' = h := by
  unfold x_un at hs
  split at hs
  next x st =>
    cases hs
    exact ⟨x, st, rfl, rfl, rfl, rfl, rfl⟩
  next => cases hs
theorem x_bl_w {S : List Value} {f : Int64 → Int64 → Option Int64} {nx pc' : Nat} {L L' S' : List Value} {h h' : x_H} (hs : x_bl S f nx L h = some (pc', L', S', h')) : ∃ x y st v, S = .long y :: .long x :: st ∧ f x y = some v ∧ pc' = nx ∧ L' = L ∧ S' = .long v :: st ∧ h' = h := by
  unfold x_bl at hs
  split at hs
  next y x st =>
    split at hs
    next v hv =>
      cases hs
      exact ⟨x, y, st, v, rfl, hv, rfl, rfl, rfl, rfl⟩
    next => cases hs
  next => cases hs
theorem x_sz_set {h : x_H} {p : Nat} {c c' : x_C} (hc : h[p]? = some c) (hl : c'.2.length = c.2.length) : x_sz (h.set p c') = x_sz h := by
  unfold x_sz
  induction h generalizing p with
  | nil => simp at hc
  | cons a h ih =>
    cases p with
    | zero =>
      rw [List.getElem?_cons_zero] at hc
      cases hc
      simp [hl]
    | succ p =>
      rw [List.getElem?_cons_succ] at hc
      simp only [List.set_cons_succ, List.map_cons, List.sum_cons]
      rw [ih hc]
theorem x_sz_push (h : x_H) (c : x_C) : x_sz (h ++ [c]) = x_sz h + c.2.length := by
  unfold x_sz
  simp
theorem x_cpy_len (f g : List Value) (sp dp n : Nat) : (x_cpy f g sp dp n).length = g.length := by unfold x_cpy; simp
set_option maxHeartbeats 4000000 in
theorem x_step_mono {ini : Bool} {i : Instr} {pc nx pc' : Nat} {L S L' S' : List Value} {h h' : x_H} (hs : x_step ini i pc nx L S h = some (pc', L', S', h')) : (h.length ≤ h'.length ∧ x_sz h ≤ x_sz h') ∧ (L'.length = L.length) := by
  have same : ∀ {A B : x_H}, A = B → A.length ≤ B.length ∧ x_sz A ≤ x_sz B := fun e => by rw [e]; exact ⟨Nat.le_refl _, Nat.le_refl _⟩
  have bi : ∀ {f : Int32 → Int32 → Option Int32}, x_bi S f nx L h = some (pc', L', S', h') → (h.length ≤ h'.length ∧ x_sz h ≤ x_sz h') ∧ L'.length = L.length := by
    intro f q
    obtain ⟨x, y, st, v, -, -, -, rfl, -, rfl⟩ := x_bi_w q
    exact ⟨same rfl, rfl⟩
  have un : ∀ {f : Int32 → Int32}, x_un S f nx L h = some (pc', L', S', h') → (h.length ≤ h'.length ∧ x_sz h ≤ x_sz h') ∧ L'.length = L.length := by
    intro f q
    obtain ⟨x, st, -, -, rfl, -, rfl⟩ := x_un_w q
    exact ⟨same rfl, rfl⟩
  have bl : ∀ {f : Int64 → Int64 → Option Int64}, x_bl S f nx L h = some (pc', L', S', h') → (h.length ≤ h'.length ∧ x_sz h ≤ x_sz h') ∧ L'.length = L.length := by
    intro f q
    obtain ⟨x, y, st, v, -, -, -, rfl, -, rfl⟩ := x_bl_w q
    exact ⟨same rfl, rfl⟩
  unfold x_step at hs
  split at hs <;> first | exact bi hs | exact un hs | exact bl hs | skip
  all_goals repeat' (split at hs)
  all_goals first
    | (cases hs; done)
    | (cases hs; exact ⟨same rfl, rfl⟩)
    | (cases hs; exact ⟨same rfl, x_st1_len _ _ _⟩)
    | (cases hs; exact ⟨same rfl, x_st2_len _ _ _⟩)
    | (cases hs; exact ⟨⟨by simp, by rw [x_sz_push]; omega⟩, rfl⟩)
    | (cases hs; refine ⟨⟨by rw [List.length_set]; exact Nat.le_refl _, Nat.le_of_eq (x_sz_set (by assumption) (by first | exact List.length_set | exact x_cpy_len _ _ _ _ _)).symm⟩, rfl⟩)
    | (cases hs; exact ⟨⟨by rw [List.length_set]; exact Nat.le_refl _, Nat.le_of_eq (x_sz_set (by assumption) (List.length_set)).symm⟩, rfl⟩)
theorem x_call_w {c i z k : Nat} (h : x_call c i = some (z, k)) : z < x_nm_all ∧ ((k = 3 ∧ c = 5 ∧ x_kd z = 2 ∧ ∃ w, (i, z, w) ∈ x_ne) ∨ (k ≠ 3 ∧ x_kd z = k ∧ Jvm.Cond.methodLink (x_cn c) i (x_nm z) ∈ x_TB)) := by
  unfold x_call at h
  rw [Option.map_eq_some_iff] at h
  obtain ⟨r, h1, h2⟩ := h
  have h3 := List.find?_some h1
  simp only [Bool.and_eq_true, beq_iff_eq] at h3
  have hm := List.mem_of_find?_eq_some h1
  have h4 := List.all_eq_true.mp x_ct_ok r hm
  simp only [Bool.and_eq_true, decide_eq_true_eq] at h4
  cases h2
  refine ⟨h4.1, ?_⟩
  by_cases hk : r.2.2.2.1 = 3
  · rw [if_pos hk] at h4
    simp only [Bool.and_eq_true, decide_eq_true_eq] at h4
    refine Or.inl ⟨hk, by rw [← h3.1]; exact h4.2.2, h4.2.1, r.2.2.2.2, ?_⟩
    unfold x_ne
    refine List.mem_map.mpr ⟨r, List.mem_filter.mpr ⟨hm, by simpa using hk⟩, by rw [h3.2]⟩
  · rw [if_neg hk] at h4
    simp only [Bool.and_eq_true, decide_eq_true_eq] at h4
    refine Or.inr ⟨hk, h4.2.1, ?_⟩
    have h5 := x_at_in h4.2.2
    rw [h3.1, h3.2] at h5
    exact h5
